theorem dX3_init_0 : decode cX3_init 0 = .ok (.aload_n 0, 1) := by decide +kernel
theorem dX3_init_1 : decode cX3_init 1 = .ok (.invokespecial 3, 3) := by decide +kernel
theorem dX3_init_4 : decode cX3_init 4 = .ok (.aload_n 0, 1) := by decide +kernel
theorem dX3_init_5 : decode cX3_init 5 = .ok (.new 9, 3) := by decide +kernel
theorem dX3_init_8 : decode cX3_init 8 = .ok (.dup, 1) := by decide +kernel
theorem dX3_init_9 : decode cX3_init 9 = .ok (.invokespecial 11, 3) := by decide +kernel
theorem dX3_init_12 : decode cX3_init 12 = .ok (.putfield 12, 3) := by decide +kernel
theorem dX3_init_15 : decode cX3_init 15 = .ok (.aload_n 0, 1) := by decide +kernel
theorem dX3_init_16 : decode cX3_init 16 = .ok (.iconst 1, 1) := by decide +kernel
theorem dX3_init_17 : decode cX3_init 17 = .ok (.putfield 18, 3) := by decide +kernel
theorem dX3_init_20 : decode cX3_init 20 = .ok (.aload_n 0, 1) := by decide +kernel
theorem dX3_init_21 : decode cX3_init 21 = .ok (.iconst 0, 1) := by decide +kernel
theorem dX3_init_22 : decode cX3_init 22 = .ok (.putfield 22, 3) := by decide +kernel
theorem dX3_init_25 : decode cX3_init 25 = .ok (.return_, 1) := by decide +kernel
set_option maxRecDepth 20000 in
theorem ggX3_hasPlainArcsAlone_X7_upperOf : GoodIn wsX3_hasPlainArcsAlone wsX7_upperOf := goodIn_r _ [7] rfl (by decide +kernel)
set_option maxRecDepth 20000 in
theorem gX3_hasPlainArcsAlone_X7_upperOf_n32 : GoodIn wsX3_hasPlainArcsAlone (wsX7_upperOf) := ggX3_hasPlainArcsAlone_X7_upperOf
set_option maxRecDepth 20000 in
theorem ggX3_hasPlainArcsAlone_X7_lowerOf : GoodIn wsX3_hasPlainArcsAlone wsX7_lowerOf := goodIn_r _ [9] rfl (by decide +kernel)
set_option maxRecDepth 20000 in
theorem gX3_hasPlainArcsAlone_X7_lowerOf_n36 : GoodIn wsX3_hasPlainArcsAlone (wsX7_lowerOf) := ggX3_hasPlainArcsAlone_X7_lowerOf
theorem dX3_hasPlainArcsAlone_0 : decode cX3_hasPlainArcsAlone 0 = .ok (.iconst 0, 1) := by decide +kernel
theorem dX3_hasPlainArcsAlone_1 : decode cX3_hasPlainArcsAlone 1 = .ok (.istore_n 1, 1) := by decide +kernel
theorem dX3_hasPlainArcsAlone_2 : decode cX3_hasPlainArcsAlone 2 = .ok (.iload_n 1, 1) := by decide +kernel
theorem dX3_hasPlainArcsAlone_3 : decode cX3_hasPlainArcsAlone 3 = .ok (.aload_n 0, 1) := by decide +kernel
theorem dX3_hasPlainArcsAlone_4 : decode cX3_hasPlainArcsAlone 4 = .ok (.getfield 12, 3) := by decide +kernel
theorem dX3_hasPlainArcsAlone_7 : decode cX3_hasPlainArcsAlone 7 = .ok (.getfield 25, 3) := by decide +kernel
theorem dX3_hasPlainArcsAlone_10 : decode cX3_hasPlainArcsAlone 10 = .ok (.if_icmp .ge 44, 3) := by decide +kernel
theorem dX3_hasPlainArcsAlone_13 : decode cX3_hasPlainArcsAlone 13 = .ok (.aload_n 0, 1) := by decide +kernel
theorem dX3_hasPlainArcsAlone_14 : decode cX3_hasPlainArcsAlone 14 = .ok (.getfield 12, 3) := by decide +kernel
theorem dX3_hasPlainArcsAlone_17 : decode cX3_hasPlainArcsAlone 17 = .ok (.getfield 28, 3) := by decide +kernel
theorem dX3_hasPlainArcsAlone_20 : decode cX3_hasPlainArcsAlone 20 = .ok (.iload_n 1, 1) := by decide +kernel
theorem dX3_hasPlainArcsAlone_21 : decode cX3_hasPlainArcsAlone 21 = .ok (.iaload, 1) := by decide +kernel
theorem dX3_hasPlainArcsAlone_22 : decode cX3_hasPlainArcsAlone 22 = .ok (.istore_n 2, 1) := by decide +kernel
theorem dX3_hasPlainArcsAlone_23 : decode cX3_hasPlainArcsAlone 23 = .ok (.iload_n 2, 1) := by decide +kernel
theorem dX3_hasPlainArcsAlone_24 : decode cX3_hasPlainArcsAlone 24 = .ok (.invokestatic 32, 3) := by decide +kernel
theorem dX3_hasPlainArcsAlone_27 : decode cX3_hasPlainArcsAlone 27 = .ok (.iload_n 2, 1) := by decide +kernel
theorem dX3_hasPlainArcsAlone_28 : decode cX3_hasPlainArcsAlone 28 = .ok (.invokestatic 36, 3) := by decide +kernel
theorem dX3_hasPlainArcsAlone_31 : decode cX3_hasPlainArcsAlone 31 = .ok (.if_icmp .ne 15, 3) := by decide +kernel
theorem dX3_hasPlainArcsAlone_34 : decode cX3_hasPlainArcsAlone 34 = .ok (.aload_n 0, 1) := by decide +kernel
theorem dX3_hasPlainArcsAlone_35 : decode cX3_hasPlainArcsAlone 35 = .ok (.getfield 12, 3) := by decide +kernel
theorem dX3_hasPlainArcsAlone_38 : decode cX3_hasPlainArcsAlone 38 = .ok (.getfield 39, 3) := by decide +kernel
theorem dX3_hasPlainArcsAlone_41 : decode cX3_hasPlainArcsAlone 41 = .ok (.iload_n 1, 1) := by decide +kernel
theorem dX3_hasPlainArcsAlone_42 : decode cX3_hasPlainArcsAlone 42 = .ok (.iaload, 1) := by decide +kernel
theorem dX3_hasPlainArcsAlone_43 : decode cX3_hasPlainArcsAlone 43 = .ok (.ifCond .eq 5, 3) := by decide +kernel
theorem dX3_hasPlainArcsAlone_46 : decode cX3_hasPlainArcsAlone 46 = .ok (.iconst 0, 1) := by decide +kernel
theorem dX3_hasPlainArcsAlone_47 : decode cX3_hasPlainArcsAlone 47 = .ok (.ireturn, 1) := by decide +kernel
theorem dX3_hasPlainArcsAlone_48 : decode cX3_hasPlainArcsAlone 48 = .ok (.iinc 1 1, 3) := by decide +kernel
theorem dX3_hasPlainArcsAlone_51 : decode cX3_hasPlainArcsAlone 51 = .ok (.goto (-49), 3) := by decide +kernel
theorem dX3_hasPlainArcsAlone_54 : decode cX3_hasPlainArcsAlone 54 = .ok (.iconst 1, 1) := by decide +kernel
theorem dX3_hasPlainArcsAlone_55 : decode cX3_hasPlainArcsAlone 55 = .ok (.ireturn, 1) := by decide +kernel
set_option maxRecDepth 20000 in
theorem ggX3_relatesEmpty_X7_upperOf : GoodIn wsX3_relatesEmpty wsX7_upperOf := goodIn_r _ [8] rfl (by decide +kernel)
set_option maxRecDepth 20000 in
theorem gX3_relatesEmpty_X7_upperOf_n32 : GoodIn wsX3_relatesEmpty (wsX7_upperOf) := ggX3_relatesEmpty_X7_upperOf
set_option maxRecDepth 20000 in
theorem ggX3_relatesEmpty_X7_lowerOf : GoodIn wsX3_relatesEmpty wsX7_lowerOf := goodIn_r _ [10] rfl (by decide +kernel)
set_option maxRecDepth 20000 in
theorem gX3_relatesEmpty_X7_lowerOf_n36 : GoodIn wsX3_relatesEmpty (wsX7_lowerOf) := ggX3_relatesEmpty_X7_lowerOf
set_option maxRecDepth 20000 in
theorem ggX3_relatesEmpty_X7_fromOf : GoodIn wsX3_relatesEmpty wsX7_fromOf := goodIn_r _ [12] rfl (by decide +kernel)
set_option maxRecDepth 20000 in
theorem gX3_relatesEmpty_X7_fromOf_n42 : GoodIn wsX3_relatesEmpty (wsX7_fromOf) := ggX3_relatesEmpty_X7_fromOf
set_option maxRecDepth 20000 in
theorem ggX3_relatesEmpty_X7_holds : GoodIn wsX3_relatesEmpty wsX7_holds := goodIn_r _ [14] rfl (by decide +kernel)
set_option maxRecDepth 20000 in
theorem gX3_relatesEmpty_X7_holds_n45 : GoodIn wsX3_relatesEmpty (wsX7_holds) := ggX3_relatesEmpty_X7_holds
set_option maxRecDepth 20000 in
theorem ggX3_relatesEmpty_X7_toOf : GoodIn wsX3_relatesEmpty wsX7_toOf := goodIn_r _ [16] rfl (by decide +kernel)
set_option maxRecDepth 20000 in
theorem gX3_relatesEmpty_X7_toOf_n49 : GoodIn wsX3_relatesEmpty (wsX7_toOf) := ggX3_relatesEmpty_X7_toOf
theorem dX3_relatesEmpty_0 : decode cX3_relatesEmpty 0 = .ok (.iconst 1, 1) := by decide +kernel
theorem dX3_relatesEmpty_1 : decode cX3_relatesEmpty 1 = .ok (.istore_n 2, 1) := by decide +kernel
theorem dX3_relatesEmpty_2 : decode cX3_relatesEmpty 2 = .ok (.iconst 1, 1) := by decide +kernel
theorem dX3_relatesEmpty_3 : decode cX3_relatesEmpty 3 = .ok (.istore_n 3, 1) := by decide +kernel
theorem dX3_relatesEmpty_4 : decode cX3_relatesEmpty 4 = .ok (.iconst 0, 1) := by decide +kernel
theorem dX3_relatesEmpty_5 : decode cX3_relatesEmpty 5 = .ok (.istore 4, 2) := by decide +kernel
theorem dX3_relatesEmpty_7 : decode cX3_relatesEmpty 7 = .ok (.iload_n 3, 1) := by decide +kernel
theorem dX3_relatesEmpty_8 : decode cX3_relatesEmpty 8 = .ok (.ifCond .eq 115, 3) := by decide +kernel
theorem dX3_relatesEmpty_11 : decode cX3_relatesEmpty 11 = .ok (.iload 4, 2) := by decide +kernel
theorem dX3_relatesEmpty_13 : decode cX3_relatesEmpty 13 = .ok (.aload_n 0, 1) := by decide +kernel
theorem dX3_relatesEmpty_14 : decode cX3_relatesEmpty 14 = .ok (.getfield 18, 3) := by decide +kernel
theorem dX3_relatesEmpty_17 : decode cX3_relatesEmpty 17 = .ok (.if_icmp .ge 106, 3) := by decide +kernel
theorem dX3_relatesEmpty_20 : decode cX3_relatesEmpty 20 = .ok (.iconst 0, 1) := by decide +kernel
theorem dX3_relatesEmpty_21 : decode cX3_relatesEmpty 21 = .ok (.istore_n 3, 1) := by decide +kernel
theorem dX3_relatesEmpty_22 : decode cX3_relatesEmpty 22 = .ok (.iconst 0, 1) := by decide +kernel
theorem dX3_relatesEmpty_23 : decode cX3_relatesEmpty 23 = .ok (.istore 5, 2) := by decide +kernel
theorem dX3_relatesEmpty_25 : decode cX3_relatesEmpty 25 = .ok (.iload 5, 2) := by decide +kernel
theorem dX3_relatesEmpty_27 : decode cX3_relatesEmpty 27 = .ok (.aload_n 0, 1) := by decide +kernel
theorem dX3_relatesEmpty_28 : decode cX3_relatesEmpty 28 = .ok (.getfield 12, 3) := by decide +kernel
theorem dX3_relatesEmpty_31 : decode cX3_relatesEmpty 31 = .ok (.getfield 25, 3) := by decide +kernel
theorem dX3_relatesEmpty_34 : decode cX3_relatesEmpty 34 = .ok (.if_icmp .ge 83, 3) := by decide +kernel
theorem dX3_relatesEmpty_37 : decode cX3_relatesEmpty 37 = .ok (.aload_n 0, 1) := by decide +kernel
theorem dX3_relatesEmpty_38 : decode cX3_relatesEmpty 38 = .ok (.getfield 12, 3) := by decide +kernel
theorem dX3_relatesEmpty_41 : decode cX3_relatesEmpty 41 = .ok (.getfield 28, 3) := by decide +kernel
theorem dX3_relatesEmpty_44 : decode cX3_relatesEmpty 44 = .ok (.iload 5, 2) := by decide +kernel
theorem dX3_relatesEmpty_46 : decode cX3_relatesEmpty 46 = .ok (.iaload, 1) := by decide +kernel
theorem dX3_relatesEmpty_47 : decode cX3_relatesEmpty 47 = .ok (.istore 6, 2) := by decide +kernel
theorem dX3_relatesEmpty_49 : decode cX3_relatesEmpty 49 = .ok (.iload_n 1, 1) := by decide +kernel
theorem dX3_relatesEmpty_50 : decode cX3_relatesEmpty 50 = .ok (.ifCond .eq 11, 3) := by decide +kernel
theorem dX3_relatesEmpty_53 : decode cX3_relatesEmpty 53 = .ok (.iload 6, 2) := by decide +kernel
theorem dX3_relatesEmpty_55 : decode cX3_relatesEmpty 55 = .ok (.invokestatic 32, 3) := by decide +kernel
theorem dX3_relatesEmpty_58 : decode cX3_relatesEmpty 58 = .ok (.goto 8, 3) := by decide +kernel
theorem dX3_relatesEmpty_61 : decode cX3_relatesEmpty 61 = .ok (.iload 6, 2) := by decide +kernel
theorem dX3_relatesEmpty_63 : decode cX3_relatesEmpty 63 = .ok (.invokestatic 36, 3) := by decide +kernel
theorem dX3_relatesEmpty_66 : decode cX3_relatesEmpty 66 = .ok (.istore 7, 2) := by decide +kernel
theorem dX3_relatesEmpty_68 : decode cX3_relatesEmpty 68 = .ok (.iload 7, 2) := by decide +kernel
theorem dX3_relatesEmpty_70 : decode cX3_relatesEmpty 70 = .ok (.bipush 8, 2) := by decide +kernel
theorem dX3_relatesEmpty_72 : decode cX3_relatesEmpty 72 = .ok (.if_icmp .ne 39, 3) := by decide +kernel
theorem dX3_relatesEmpty_75 : decode cX3_relatesEmpty 75 = .ok (.iload_n 2, 1) := by decide +kernel
theorem dX3_relatesEmpty_76 : decode cX3_relatesEmpty 76 = .ok (.iload 6, 2) := by decide +kernel
theorem dX3_relatesEmpty_78 : decode cX3_relatesEmpty 78 = .ok (.invokestatic 42, 3) := by decide +kernel
theorem dX3_relatesEmpty_81 : decode cX3_relatesEmpty 81 = .ok (.invokestatic 45, 3) := by decide +kernel
theorem dX3_relatesEmpty_84 : decode cX3_relatesEmpty 84 = .ok (.ifCond .eq 27, 3) := by decide +kernel
theorem dX3_relatesEmpty_87 : decode cX3_relatesEmpty 87 = .ok (.iload_n 2, 1) := by decide +kernel
theorem dX3_relatesEmpty_88 : decode cX3_relatesEmpty 88 = .ok (.iload 6, 2) := by decide +kernel
theorem dX3_relatesEmpty_90 : decode cX3_relatesEmpty 90 = .ok (.invokestatic 49, 3) := by decide +kernel
theorem dX3_relatesEmpty_93 : decode cX3_relatesEmpty 93 = .ok (.invokestatic 45, 3) := by decide +kernel
theorem dX3_relatesEmpty_96 : decode cX3_relatesEmpty 96 = .ok (.ifCond .ne 15, 3) := by decide +kernel
theorem dX3_relatesEmpty_99 : decode cX3_relatesEmpty 99 = .ok (.iload_n 2, 1) := by decide +kernel
theorem dX3_relatesEmpty_100 : decode cX3_relatesEmpty 100 = .ok (.iconst 1, 1) := by decide +kernel
theorem dX3_relatesEmpty_101 : decode cX3_relatesEmpty 101 = .ok (.iload 6, 2) := by decide +kernel
theorem dX3_relatesEmpty_103 : decode cX3_relatesEmpty 103 = .ok (.invokestatic 49, 3) := by decide +kernel
theorem dX3_relatesEmpty_106 : decode cX3_relatesEmpty 106 = .ok (.ishl, 1) := by decide +kernel
theorem dX3_relatesEmpty_107 : decode cX3_relatesEmpty 107 = .ok (.ior, 1) := by decide +kernel
theorem dX3_relatesEmpty_108 : decode cX3_relatesEmpty 108 = .ok (.istore_n 2, 1) := by decide +kernel
theorem dX3_relatesEmpty_109 : decode cX3_relatesEmpty 109 = .ok (.iconst 1, 1) := by decide +kernel
theorem dX3_relatesEmpty_110 : decode cX3_relatesEmpty 110 = .ok (.istore_n 3, 1) := by decide +kernel
theorem dX3_relatesEmpty_111 : decode cX3_relatesEmpty 111 = .ok (.iinc 5 1, 3) := by decide +kernel
theorem dX3_relatesEmpty_114 : decode cX3_relatesEmpty 114 = .ok (.goto (-89), 3) := by decide +kernel
theorem dX3_relatesEmpty_117 : decode cX3_relatesEmpty 117 = .ok (.iinc 4 1, 3) := by decide +kernel
theorem dX3_relatesEmpty_120 : decode cX3_relatesEmpty 120 = .ok (.goto (-113), 3) := by decide +kernel
theorem dX3_relatesEmpty_123 : decode cX3_relatesEmpty 123 = .ok (.iload_n 2, 1) := by decide +kernel
theorem dX3_relatesEmpty_124 : decode cX3_relatesEmpty 124 = .ok (.aload_n 0, 1) := by decide +kernel
theorem dX3_relatesEmpty_125 : decode cX3_relatesEmpty 125 = .ok (.getfield 22, 3) := by decide +kernel
theorem dX3_relatesEmpty_128 : decode cX3_relatesEmpty 128 = .ok (.iand, 1) := by decide +kernel
theorem dX3_relatesEmpty_129 : decode cX3_relatesEmpty 129 = .ok (.ifCond .eq 7, 3) := by decide +kernel
theorem dX3_relatesEmpty_132 : decode cX3_relatesEmpty 132 = .ok (.iconst 1, 1) := by decide +kernel
theorem dX3_relatesEmpty_133 : decode cX3_relatesEmpty 133 = .ok (.goto 4, 3) := by decide +kernel
theorem dX3_relatesEmpty_136 : decode cX3_relatesEmpty 136 = .ok (.iconst 0, 1) := by decide +kernel
theorem dX3_relatesEmpty_137 : decode cX3_relatesEmpty 137 = .ok (.ireturn, 1) := by decide +kernel
set_option maxRecDepth 20000 in
theorem ggX4_init_X3_init : GoodIn wsX4_init wsX3_init := goodIn_r _ [23, 24, 2, 3, 25, 26, 27, 28, 29, 30, 31, 32, 33, 4, 34, 35, 36, 54, 55, 56, 51, 52, 53] rfl (by decide +kernel)
set_option maxRecDepth 20000 in
theorem gX4_init_X3_init_n21 : GoodIn wsX4_init (wsX3_init) := ggX4_init_X3_init
theorem dX4_init_0 : decode cX4_init 0 = .ok (.aload_n 0, 1) := by decide +kernel
theorem dX4_init_1 : decode cX4_init 1 = .ok (.invokespecial 5, 3) := by decide +kernel
theorem dX4_init_4 : decode cX4_init 4 = .ok (.aload_n 0, 1) := by decide +kernel
theorem dX4_init_5 : decode cX4_init 5 = .ok (.bipush 8, 2) := by decide +kernel
theorem dX4_init_7 : decode cX4_init 7 = .ok (.newarray .int, 2) := by decide +kernel
theorem dX4_init_9 : decode cX4_init 9 = .ok (.putfield 11, 3) := by decide +kernel
theorem dX4_init_12 : decode cX4_init 12 = .ok (.aload_n 0, 1) := by decide +kernel
theorem dX4_init_13 : decode cX4_init 13 = .ok (.iconst 0, 1) := by decide +kernel
theorem dX4_init_14 : decode cX4_init 14 = .ok (.putfield 15, 3) := by decide +kernel
theorem dX4_init_17 : decode cX4_init 17 = .ok (.aload_n 0, 1) := by decide +kernel
theorem dX4_init_18 : decode cX4_init 18 = .ok (.new 19, 3) := by decide +kernel
theorem dX4_init_21 : decode cX4_init 21 = .ok (.dup, 1) := by decide +kernel
theorem dX4_init_22 : decode cX4_init 22 = .ok (.invokespecial 21, 3) := by decide +kernel
theorem dX4_init_25 : decode cX4_init 25 = .ok (.putfield 22, 3) := by decide +kernel
theorem dX4_init_28 : decode cX4_init 28 = .ok (.aload_n 0, 1) := by decide +kernel
theorem dX4_init_29 : decode cX4_init 29 = .ok (.iconst 0, 1) := by decide +kernel
theorem dX4_init_30 : decode cX4_init 30 = .ok (.putfield 26, 3) := by decide +kernel
theorem dX4_init_33 : decode cX4_init 33 = .ok (.aload_n 0, 1) := by decide +kernel
theorem dX4_init_34 : decode cX4_init 34 = .ok (.iconst 0, 1) := by decide +kernel
theorem dX4_init_35 : decode cX4_init 35 = .ok (.putfield 29, 3) := by decide +kernel
theorem dX4_init_38 : decode cX4_init 38 = .ok (.aload_n 0, 1) := by decide +kernel
theorem dX4_init_39 : decode cX4_init 39 = .ok (.sipush 160, 3) := by decide +kernel
theorem dX4_init_42 : decode cX4_init 42 = .ok (.newarray .int, 2) := by decide +kernel
theorem dX4_init_44 : decode cX4_init 44 = .ok (.putfield 33, 3) := by decide +kernel
theorem dX4_init_47 : decode cX4_init 47 = .ok (.aload_n 0, 1) := by decide +kernel
theorem dX4_init_48 : decode cX4_init 48 = .ok (.sipush 160, 3) := by decide +kernel
theorem dX4_init_51 : decode cX4_init 51 = .ok (.newarray .int, 2) := by decide +kernel
theorem dX4_init_53 : decode cX4_init 53 = .ok (.putfield 36, 3) := by decide +kernel
theorem dX4_init_56 : decode cX4_init 56 = .ok (.aload_n 0, 1) := by decide +kernel
theorem dX4_init_57 : decode cX4_init 57 = .ok (.sipush 160, 3) := by decide +kernel
theorem dX4_init_60 : decode cX4_init 60 = .ok (.newarray .int, 2) := by decide +kernel
theorem dX4_init_62 : decode cX4_init 62 = .ok (.putfield 39, 3) := by decide +kernel
theorem dX4_init_65 : decode cX4_init 65 = .ok (.aload_n 0, 1) := by decide +kernel
theorem dX4_init_66 : decode cX4_init 66 = .ok (.sipush 160, 3) := by decide +kernel
theorem dX4_init_69 : decode cX4_init 69 = .ok (.newarray .int, 2) := by decide +kernel
theorem dX4_init_71 : decode cX4_init 71 = .ok (.putfield 42, 3) := by decide +kernel
theorem dX4_init_74 : decode cX4_init 74 = .ok (.aload_n 0, 1) := by decide +kernel
theorem dX4_init_75 : decode cX4_init 75 = .ok (.sipush 288, 3) := by decide +kernel
theorem dX4_init_78 : decode cX4_init 78 = .ok (.newarray .int, 2) := by decide +kernel
theorem dX4_init_80 : decode cX4_init 80 = .ok (.putfield 45, 3) := by decide +kernel
theorem dX4_init_83 : decode cX4_init 83 = .ok (.aload_n 0, 1) := by decide +kernel
theorem dX4_init_84 : decode cX4_init 84 = .ok (.sipush 2592, 3) := by decide +kernel
theorem dX4_init_87 : decode cX4_init 87 = .ok (.newarray .int, 2) := by decide +kernel
theorem dX4_init_89 : decode cX4_init 89 = .ok (.putfield 48, 3) := by decide +kernel
theorem dX4_init_92 : decode cX4_init 92 = .ok (.aload_n 0, 1) := by decide +kernel
theorem dX4_init_93 : decode cX4_init 93 = .ok (.sipush 288, 3) := by decide +kernel
theorem dX4_init_96 : decode cX4_init 96 = .ok (.newarray .int, 2) := by decide +kernel
theorem dX4_init_98 : decode cX4_init 98 = .ok (.putfield 51, 3) := by decide +kernel
theorem dX4_init_101 : decode cX4_init 101 = .ok (.aload_n 0, 1) := by decide +kernel
theorem dX4_init_102 : decode cX4_init 102 = .ok (.sipush 288, 3) := by decide +kernel
theorem dX4_init_105 : decode cX4_init 105 = .ok (.newarray .int, 2) := by decide +kernel
theorem dX4_init_107 : decode cX4_init 107 = .ok (.putfield 54, 3) := by decide +kernel
theorem dX4_init_110 : decode cX4_init 110 = .ok (.aload_n 0, 1) := by decide +kernel
theorem dX4_init_111 : decode cX4_init 111 = .ok (.iconst 0, 1) := by decide +kernel
theorem dX4_init_112 : decode cX4_init 112 = .ok (.putfield 57, 3) := by decide +kernel
theorem dX4_init_115 : decode cX4_init 115 = .ok (.return_, 1) := by decide +kernel
set_option maxRecDepth 20000 in
theorem ggX4_begin_X4_takeArcsApart : GoodIn wsX4_begin wsX4_takeArcsApart := goodIn_r _ [18, 1, 19, 20, 21, 22, 23, 12, 24, 25, 26, 27, 28, 29, 30, 31, 32, 33, 34, 73, 74, 75, 76, 77, 78, 79, 80, 81, 82, 83, 84, 85, 86, 87, 88, 89, 90, 91, 92] rfl (by decide +kernel)
set_option maxRecDepth 20000 in
theorem gX4_begin_X4_takeArcsApart : GoodIn wsX4_begin (wsV RX4 72 RX4 yX4_takeArcsApart wsX4_takeArcsApart) := goodIn_app (goodIn_of _ (by decide +kernel)) ggX4_begin_X4_takeArcsApart
set_option maxRecDepth 20000 in
theorem ggX4_begin_X4_measure : GoodIn wsX4_begin wsX4_measure := goodIn_r _ [38, 6, 1, 39, 40, 41, 42, 43, 27, 44, 45, 46, 17, 47, 48, 49, 50, 51, 19, 20, 22, 25, 52, 53, 54, 55, 23, 12, 7, 56, 57, 58, 59, 60, 61, 62, 63, 64, 65, 66, 67, 68, 69, 70, 71, 72, 73, 74, 75, 76, 77, 78, 79, 80, 81, 82, 83, 84, 85, 86, 87, 88, 89, 90, 91, 92] rfl (by decide +kernel)
set_option maxRecDepth 20000 in
theorem gX4_begin_X4_measure : GoodIn wsX4_begin (wsV RX4 75 RX4 yX4_measure wsX4_measure) := goodIn_app (goodIn_of _ (by decide +kernel)) ggX4_begin_X4_measure
theorem dX4_begin_0 : decode cX4_begin 0 = .ok (.aload_n 0, 1) := by decide +kernel
theorem dX4_begin_1 : decode cX4_begin 1 = .ok (.aload_n 1, 1) := by decide +kernel
theorem dX4_begin_2 : decode cX4_begin 2 = .ok (.putfield 22, 3) := by decide +kernel
theorem dX4_begin_5 : decode cX4_begin 5 = .ok (.aload_n 0, 1) := by decide +kernel
theorem dX4_begin_6 : decode cX4_begin 6 = .ok (.iload_n 3, 1) := by decide +kernel
theorem dX4_begin_7 : decode cX4_begin 7 = .ok (.aload_n 2, 1) := by decide +kernel
theorem dX4_begin_8 : decode cX4_begin 8 = .ok (.arraylength, 1) := by decide +kernel
theorem dX4_begin_9 : decode cX4_begin 9 = .ok (.invokestatic 60, 3) := by decide +kernel
theorem dX4_begin_12 : decode cX4_begin 12 = .ok (.bipush 8, 2) := by decide +kernel
theorem dX4_begin_14 : decode cX4_begin 14 = .ok (.invokestatic 60, 3) := by decide +kernel
theorem dX4_begin_17 : decode cX4_begin 17 = .ok (.putfield 15, 3) := by decide +kernel
theorem dX4_begin_20 : decode cX4_begin 20 = .ok (.aload_n 2, 1) := by decide +kernel
theorem dX4_begin_21 : decode cX4_begin 21 = .ok (.iconst 0, 1) := by decide +kernel
theorem dX4_begin_22 : decode cX4_begin 22 = .ok (.aload_n 0, 1) := by decide +kernel
theorem dX4_begin_23 : decode cX4_begin 23 = .ok (.getfield 11, 3) := by decide +kernel
theorem dX4_begin_26 : decode cX4_begin 26 = .ok (.iconst 0, 1) := by decide +kernel
theorem dX4_begin_27 : decode cX4_begin 27 = .ok (.aload_n 0, 1) := by decide +kernel
theorem dX4_begin_28 : decode cX4_begin 28 = .ok (.getfield 15, 3) := by decide +kernel
theorem dX4_begin_31 : decode cX4_begin 31 = .ok (.invokestatic 66, 3) := by decide +kernel
theorem dX4_begin_34 : decode cX4_begin 34 = .ok (.aload_n 0, 1) := by decide +kernel
theorem dX4_begin_35 : decode cX4_begin 35 = .ok (.iload 4, 2) := by decide +kernel
theorem dX4_begin_37 : decode cX4_begin 37 = .ok (.putfield 26, 3) := by decide +kernel
theorem dX4_begin_40 : decode cX4_begin 40 = .ok (.aload_n 0, 1) := by decide +kernel
theorem dX4_begin_41 : decode cX4_begin 41 = .ok (.iconst 0, 1) := by decide +kernel
theorem dX4_begin_42 : decode cX4_begin 42 = .ok (.putfield 57, 3) := by decide +kernel
theorem dX4_begin_45 : decode cX4_begin 45 = .ok (.aload_n 0, 1) := by decide +kernel
theorem dX4_begin_46 : decode cX4_begin 46 = .ok (.invokevirtual 72, 3) := by decide +kernel
theorem dX4_begin_49 : decode cX4_begin 49 = .ok (.aload_n 0, 1) := by decide +kernel
theorem dX4_begin_50 : decode cX4_begin 50 = .ok (.invokevirtual 75, 3) := by decide +kernel
theorem dX4_begin_53 : decode cX4_begin 53 = .ok (.return_, 1) := by decide +kernel
set_option maxRecDepth 20000 in
theorem ggX4_takeArcsApart_X7_fromOf : GoodIn wsX4_takeArcsApart wsX7_fromOf := goodIn_r _ [12] rfl (by decide +kernel)
set_option maxRecDepth 20000 in
theorem gX4_takeArcsApart_X7_fromOf_n90 : GoodIn wsX4_takeArcsApart (wsX7_fromOf) := ggX4_takeArcsApart_X7_fromOf
set_option maxRecDepth 20000 in
theorem ggX4_takeArcsApart_X7_lowerOf : GoodIn wsX4_takeArcsApart wsX7_lowerOf := goodIn_r _ [14] rfl (by decide +kernel)
set_option maxRecDepth 20000 in
theorem gX4_takeArcsApart_X7_lowerOf_n94 : GoodIn wsX4_takeArcsApart (wsX7_lowerOf) := ggX4_takeArcsApart_X7_lowerOf
set_option maxRecDepth 20000 in
theorem ggX4_takeArcsApart_X7_upperOf : GoodIn wsX4_takeArcsApart wsX7_upperOf := goodIn_r _ [16] rfl (by decide +kernel)
set_option maxRecDepth 20000 in
theorem gX4_takeArcsApart_X7_upperOf_n97 : GoodIn wsX4_takeArcsApart (wsX7_upperOf) := ggX4_takeArcsApart_X7_upperOf
set_option maxRecDepth 20000 in
theorem ggX4_takeArcsApart_X7_toOf : GoodIn wsX4_takeArcsApart wsX7_toOf := goodIn_r _ [18] rfl (by decide +kernel)
set_option maxRecDepth 20000 in
theorem gX4_takeArcsApart_X7_toOf_n100 : GoodIn wsX4_takeArcsApart (wsX7_toOf) := ggX4_takeArcsApart_X7_toOf
theorem dX4_takeArcsApart_0 : decode cX4_takeArcsApart 0 = .ok (.iconst 0, 1) := by decide +kernel
theorem dX4_takeArcsApart_1 : decode cX4_takeArcsApart 1 = .ok (.istore_n 1, 1) := by decide +kernel
theorem dX4_takeArcsApart_2 : decode cX4_takeArcsApart 2 = .ok (.iload_n 1, 1) := by decide +kernel
theorem dX4_takeArcsApart_3 : decode cX4_takeArcsApart 3 = .ok (.aload_n 0, 1) := by decide +kernel
theorem dX4_takeArcsApart_4 : decode cX4_takeArcsApart 4 = .ok (.getfield 22, 3) := by decide +kernel
theorem dX4_takeArcsApart_7 : decode cX4_takeArcsApart 7 = .ok (.getfield 78, 3) := by decide +kernel
theorem dX4_takeArcsApart_10 : decode cX4_takeArcsApart 10 = .ok (.getfield 82, 3) := by decide +kernel
theorem dX4_takeArcsApart_13 : decode cX4_takeArcsApart 13 = .ok (.if_icmp .ge 91, 3) := by decide +kernel
theorem dX4_takeArcsApart_16 : decode cX4_takeArcsApart 16 = .ok (.aload_n 0, 1) := by decide +kernel
theorem dX4_takeArcsApart_17 : decode cX4_takeArcsApart 17 = .ok (.getfield 22, 3) := by decide +kernel
theorem dX4_takeArcsApart_20 : decode cX4_takeArcsApart 20 = .ok (.getfield 78, 3) := by decide +kernel
theorem dX4_takeArcsApart_23 : decode cX4_takeArcsApart 23 = .ok (.getfield 87, 3) := by decide +kernel
theorem dX4_takeArcsApart_26 : decode cX4_takeArcsApart 26 = .ok (.iload_n 1, 1) := by decide +kernel
theorem dX4_takeArcsApart_27 : decode cX4_takeArcsApart 27 = .ok (.iaload, 1) := by decide +kernel
theorem dX4_takeArcsApart_28 : decode cX4_takeArcsApart 28 = .ok (.istore_n 2, 1) := by decide +kernel
theorem dX4_takeArcsApart_29 : decode cX4_takeArcsApart 29 = .ok (.aload_n 0, 1) := by decide +kernel
theorem dX4_takeArcsApart_30 : decode cX4_takeArcsApart 30 = .ok (.getfield 33, 3) := by decide +kernel
theorem dX4_takeArcsApart_33 : decode cX4_takeArcsApart 33 = .ok (.iload_n 1, 1) := by decide +kernel
theorem dX4_takeArcsApart_34 : decode cX4_takeArcsApart 34 = .ok (.iload_n 2, 1) := by decide +kernel
theorem dX4_takeArcsApart_35 : decode cX4_takeArcsApart 35 = .ok (.invokestatic 90, 3) := by decide +kernel
theorem dX4_takeArcsApart_38 : decode cX4_takeArcsApart 38 = .ok (.iastore, 1) := by decide +kernel
theorem dX4_takeArcsApart_39 : decode cX4_takeArcsApart 39 = .ok (.aload_n 0, 1) := by decide +kernel
theorem dX4_takeArcsApart_40 : decode cX4_takeArcsApart 40 = .ok (.getfield 36, 3) := by decide +kernel
theorem dX4_takeArcsApart_43 : decode cX4_takeArcsApart 43 = .ok (.iload_n 1, 1) := by decide +kernel
theorem dX4_takeArcsApart_44 : decode cX4_takeArcsApart 44 = .ok (.aload_n 0, 1) := by decide +kernel
theorem dX4_takeArcsApart_45 : decode cX4_takeArcsApart 45 = .ok (.getfield 26, 3) := by decide +kernel
theorem dX4_takeArcsApart_48 : decode cX4_takeArcsApart 48 = .ok (.iconst 1, 1) := by decide +kernel
theorem dX4_takeArcsApart_49 : decode cX4_takeArcsApart 49 = .ok (.if_icmp .ne 10, 3) := by decide +kernel
theorem dX4_takeArcsApart_52 : decode cX4_takeArcsApart 52 = .ok (.iload_n 2, 1) := by decide +kernel
theorem dX4_takeArcsApart_53 : decode cX4_takeArcsApart 53 = .ok (.invokestatic 94, 3) := by decide +kernel
theorem dX4_takeArcsApart_56 : decode cX4_takeArcsApart 56 = .ok (.goto 7, 3) := by decide +kernel
theorem dX4_takeArcsApart_59 : decode cX4_takeArcsApart 59 = .ok (.iload_n 2, 1) := by decide +kernel
theorem dX4_takeArcsApart_60 : decode cX4_takeArcsApart 60 = .ok (.invokestatic 97, 3) := by decide +kernel
theorem dX4_takeArcsApart_63 : decode cX4_takeArcsApart 63 = .ok (.iastore, 1) := by decide +kernel
theorem dX4_takeArcsApart_64 : decode cX4_takeArcsApart 64 = .ok (.aload_n 0, 1) := by decide +kernel
theorem dX4_takeArcsApart_65 : decode cX4_takeArcsApart 65 = .ok (.getfield 39, 3) := by decide +kernel
theorem dX4_takeArcsApart_68 : decode cX4_takeArcsApart 68 = .ok (.iload_n 1, 1) := by decide +kernel
theorem dX4_takeArcsApart_69 : decode cX4_takeArcsApart 69 = .ok (.aload_n 0, 1) := by decide +kernel
theorem dX4_takeArcsApart_70 : decode cX4_takeArcsApart 70 = .ok (.getfield 26, 3) := by decide +kernel
theorem dX4_takeArcsApart_73 : decode cX4_takeArcsApart 73 = .ok (.ifCond .ne 10, 3) := by decide +kernel
theorem dX4_takeArcsApart_76 : decode cX4_takeArcsApart 76 = .ok (.iload_n 2, 1) := by decide +kernel
theorem dX4_takeArcsApart_77 : decode cX4_takeArcsApart 77 = .ok (.invokestatic 94, 3) := by decide +kernel
theorem dX4_takeArcsApart_80 : decode cX4_takeArcsApart 80 = .ok (.goto 7, 3) := by decide +kernel
theorem dX4_takeArcsApart_83 : decode cX4_takeArcsApart 83 = .ok (.iload_n 2, 1) := by decide +kernel
theorem dX4_takeArcsApart_84 : decode cX4_takeArcsApart 84 = .ok (.invokestatic 97, 3) := by decide +kernel
theorem dX4_takeArcsApart_87 : decode cX4_takeArcsApart 87 = .ok (.iastore, 1) := by decide +kernel
theorem dX4_takeArcsApart_88 : decode cX4_takeArcsApart 88 = .ok (.aload_n 0, 1) := by decide +kernel
theorem dX4_takeArcsApart_89 : decode cX4_takeArcsApart 89 = .ok (.getfield 42, 3) := by decide +kernel
theorem dX4_takeArcsApart_92 : decode cX4_takeArcsApart 92 = .ok (.iload_n 1, 1) := by decide +kernel
theorem dX4_takeArcsApart_93 : decode cX4_takeArcsApart 93 = .ok (.iload_n 2, 1) := by decide +kernel
theorem dX4_takeArcsApart_94 : decode cX4_takeArcsApart 94 = .ok (.invokestatic 100, 3) := by decide +kernel
theorem dX4_takeArcsApart_97 : decode cX4_takeArcsApart 97 = .ok (.iastore, 1) := by decide +kernel
theorem dX4_takeArcsApart_98 : decode cX4_takeArcsApart 98 = .ok (.iinc 1 1, 3) := by decide +kernel
theorem dX4_takeArcsApart_101 : decode cX4_takeArcsApart 101 = .ok (.goto (-99), 3) := by decide +kernel
theorem dX4_takeArcsApart_104 : decode cX4_takeArcsApart 104 = .ok (.return_, 1) := by decide +kernel
theorem dX4_leastCost_0 : decode cX4_leastCost 0 = .ok (.aload_n 0, 1) := by decide +kernel
theorem dX4_leastCost_1 : decode cX4_leastCost 1 = .ok (.getfield 45, 3) := by decide +kernel
theorem dX4_leastCost_4 : decode cX4_leastCost 4 = .ok (.iconst 0, 1) := by decide +kernel
theorem dX4_leastCost_5 : decode cX4_leastCost 5 = .ok (.iaload, 1) := by decide +kernel
theorem dX4_leastCost_6 : decode cX4_leastCost 6 = .ok (.ldc 103, 2) := by decide +kernel
theorem dX4_leastCost_8 : decode cX4_leastCost 8 = .ok (.if_icmp .lt 7, 3) := by decide +kernel
theorem dX4_leastCost_11 : decode cX4_leastCost 11 = .ok (.iconst (-1), 1) := by decide +kernel
theorem dX4_leastCost_12 : decode cX4_leastCost 12 = .ok (.goto 9, 3) := by decide +kernel
theorem dX4_leastCost_15 : decode cX4_leastCost 15 = .ok (.aload_n 0, 1) := by decide +kernel
theorem dX4_leastCost_16 : decode cX4_leastCost 16 = .ok (.getfield 45, 3) := by decide +kernel
theorem dX4_leastCost_19 : decode cX4_leastCost 19 = .ok (.iconst 0, 1) := by decide +kernel
theorem dX4_leastCost_20 : decode cX4_leastCost 20 = .ok (.iaload, 1) := by decide +kernel
theorem dX4_leastCost_21 : decode cX4_leastCost 21 = .ok (.ireturn, 1) := by decide +kernel
theorem dX4_foundLetter_0 : decode cX4_foundLetter 0 = .ok (.iload_n 1, 1) := by decide +kernel
theorem dX4_foundLetter_1 : decode cX4_foundLetter 1 = .ok (.ifCond .lt 20, 3) := by decide +kernel
theorem dX4_foundLetter_4 : decode cX4_foundLetter 4 = .ok (.iload_n 1, 1) := by decide +kernel
theorem dX4_foundLetter_5 : decode cX4_foundLetter 5 = .ok (.aload_n 0, 1) := by decide +kernel
theorem dX4_foundLetter_6 : decode cX4_foundLetter 6 = .ok (.getfield 57, 3) := by decide +kernel
theorem dX4_foundLetter_9 : decode cX4_foundLetter 9 = .ok (.if_icmp .ge 12, 3) := by decide +kernel
theorem dX4_foundLetter_12 : decode cX4_foundLetter 12 = .ok (.aload_n 0, 1) := by decide +kernel
theorem dX4_foundLetter_13 : decode cX4_foundLetter 13 = .ok (.getfield 54, 3) := by decide +kernel
theorem dX4_foundLetter_16 : decode cX4_foundLetter 16 = .ok (.iload_n 1, 1) := by decide +kernel
theorem dX4_foundLetter_17 : decode cX4_foundLetter 17 = .ok (.iaload, 1) := by decide +kernel
theorem dX4_foundLetter_18 : decode cX4_foundLetter 18 = .ok (.goto 5, 3) := by decide +kernel
theorem dX4_foundLetter_21 : decode cX4_foundLetter 21 = .ok (.bipush 8, 2) := by decide +kernel
theorem dX4_foundLetter_23 : decode cX4_foundLetter 23 = .ok (.ireturn, 1) := by decide +kernel
theorem dX4_costToStay_0 : decode cX4_costToStay 0 = .ok (.aload_n 0, 1) := by decide +kernel
theorem dX4_costToStay_1 : decode cX4_costToStay 1 = .ok (.getfield 26, 3) := by decide +kernel
theorem dX4_costToStay_4 : decode cX4_costToStay 4 = .ok (.iconst 2, 1) := by decide +kernel
theorem dX4_costToStay_5 : decode cX4_costToStay 5 = .ok (.if_icmp .ne 20, 3) := by decide +kernel
theorem dX4_costToStay_8 : decode cX4_costToStay 8 = .ok (.aload_n 0, 1) := by decide +kernel
theorem dX4_costToStay_9 : decode cX4_costToStay 9 = .ok (.getfield 36, 3) := by decide +kernel
theorem dX4_costToStay_12 : decode cX4_costToStay 12 = .ok (.iload_n 1, 1) := by decide +kernel
theorem dX4_costToStay_13 : decode cX4_costToStay 13 = .ok (.iaload, 1) := by decide +kernel
theorem dX4_costToStay_14 : decode cX4_costToStay 14 = .ok (.bipush 8, 2) := by decide +kernel
theorem dX4_costToStay_16 : decode cX4_costToStay 16 = .ok (.if_icmp .ne 7, 3) := by decide +kernel
theorem dX4_costToStay_19 : decode cX4_costToStay 19 = .ok (.iconst 0, 1) := by decide +kernel
theorem dX4_costToStay_20 : decode cX4_costToStay 20 = .ok (.goto 4, 3) := by decide +kernel
theorem dX4_costToStay_23 : decode cX4_costToStay 23 = .ok (.iconst 1, 1) := by decide +kernel
theorem dX4_costToStay_24 : decode cX4_costToStay 24 = .ok (.ireturn, 1) := by decide +kernel
theorem dX4_costToStay_25 : decode cX4_costToStay 25 = .ok (.aload_n 0, 1) := by decide +kernel
theorem dX4_costToStay_26 : decode cX4_costToStay 26 = .ok (.getfield 36, 3) := by decide +kernel
theorem dX4_costToStay_29 : decode cX4_costToStay 29 = .ok (.iload_n 1, 1) := by decide +kernel
theorem dX4_costToStay_30 : decode cX4_costToStay 30 = .ok (.iaload, 1) := by decide +kernel
theorem dX4_costToStay_31 : decode cX4_costToStay 31 = .ok (.bipush 8, 2) := by decide +kernel
theorem dX4_costToStay_33 : decode cX4_costToStay 33 = .ok (.if_icmp .ne 18, 3) := by decide +kernel
theorem dX4_costToStay_36 : decode cX4_costToStay 36 = .ok (.aload_n 0, 1) := by decide +kernel
theorem dX4_costToStay_37 : decode cX4_costToStay 37 = .ok (.getfield 22, 3) := by decide +kernel
theorem dX4_costToStay_40 : decode cX4_costToStay 40 = .ok (.getfield 78, 3) := by decide +kernel
theorem dX4_costToStay_43 : decode cX4_costToStay 43 = .ok (.getfield 104, 3) := by decide +kernel
theorem dX4_costToStay_46 : decode cX4_costToStay 46 = .ok (.iload_n 1, 1) := by decide +kernel
theorem dX4_costToStay_47 : decode cX4_costToStay 47 = .ok (.iaload, 1) := by decide +kernel
theorem dX4_costToStay_48 : decode cX4_costToStay 48 = .ok (.goto 4, 3) := by decide +kernel
theorem dX4_costToStay_51 : decode cX4_costToStay 51 = .ok (.iconst (-1), 1) := by decide +kernel
theorem dX4_costToStay_52 : decode cX4_costToStay 52 = .ok (.ireturn, 1) := by decide +kernel
theorem dX4_costToRead_0 : decode cX4_costToRead 0 = .ok (.aload_n 0, 1) := by decide +kernel
theorem dX4_costToRead_1 : decode cX4_costToRead 1 = .ok (.getfield 36, 3) := by decide +kernel
theorem dX4_costToRead_4 : decode cX4_costToRead 4 = .ok (.iload_n 1, 1) := by decide +kernel
theorem dX4_costToRead_5 : decode cX4_costToRead 5 = .ok (.iaload, 1) := by decide +kernel
theorem dX4_costToRead_6 : decode cX4_costToRead 6 = .ok (.bipush 8, 2) := by decide +kernel
theorem dX4_costToRead_8 : decode cX4_costToRead 8 = .ok (.if_icmp .eq 11, 3) := by decide +kernel
theorem dX4_costToRead_11 : decode cX4_costToRead 11 = .ok (.iload_n 2, 1) := by decide +kernel
theorem dX4_costToRead_12 : decode cX4_costToRead 12 = .ok (.aload_n 0, 1) := by decide +kernel
theorem dX4_costToRead_13 : decode cX4_costToRead 13 = .ok (.getfield 15, 3) := by decide +kernel
theorem dX4_costToRead_16 : decode cX4_costToRead 16 = .ok (.if_icmp .lt 5, 3) := by decide +kernel
theorem dX4_costToRead_19 : decode cX4_costToRead 19 = .ok (.iconst (-1), 1) := by decide +kernel
theorem dX4_costToRead_20 : decode cX4_costToRead 20 = .ok (.ireturn, 1) := by decide +kernel
theorem dX4_costToRead_21 : decode cX4_costToRead 21 = .ok (.aload_n 0, 1) := by decide +kernel
theorem dX4_costToRead_22 : decode cX4_costToRead 22 = .ok (.getfield 26, 3) := by decide +kernel
theorem dX4_costToRead_25 : decode cX4_costToRead 25 = .ok (.iconst 2, 1) := by decide +kernel
theorem dX4_costToRead_26 : decode cX4_costToRead 26 = .ok (.if_icmp .ne 24, 3) := by decide +kernel
theorem dX4_costToRead_29 : decode cX4_costToRead 29 = .ok (.aload_n 0, 1) := by decide +kernel
theorem dX4_costToRead_30 : decode cX4_costToRead 30 = .ok (.getfield 36, 3) := by decide +kernel
theorem dX4_costToRead_33 : decode cX4_costToRead 33 = .ok (.iload_n 1, 1) := by decide +kernel
theorem dX4_costToRead_34 : decode cX4_costToRead 34 = .ok (.iaload, 1) := by decide +kernel
theorem dX4_costToRead_35 : decode cX4_costToRead 35 = .ok (.aload_n 0, 1) := by decide +kernel
theorem dX4_costToRead_36 : decode cX4_costToRead 36 = .ok (.getfield 11, 3) := by decide +kernel
theorem dX4_costToRead_39 : decode cX4_costToRead 39 = .ok (.iload_n 2, 1) := by decide +kernel
theorem dX4_costToRead_40 : decode cX4_costToRead 40 = .ok (.iaload, 1) := by decide +kernel
theorem dX4_costToRead_41 : decode cX4_costToRead 41 = .ok (.if_icmp .ne 7, 3) := by decide +kernel
theorem dX4_costToRead_44 : decode cX4_costToRead 44 = .ok (.iconst 0, 1) := by decide +kernel
theorem dX4_costToRead_45 : decode cX4_costToRead 45 = .ok (.goto 4, 3) := by decide +kernel
theorem dX4_costToRead_48 : decode cX4_costToRead 48 = .ok (.iconst 1, 1) := by decide +kernel
theorem dX4_costToRead_49 : decode cX4_costToRead 49 = .ok (.ireturn, 1) := by decide +kernel
theorem dX4_costToRead_50 : decode cX4_costToRead 50 = .ok (.aload_n 0, 1) := by decide +kernel
theorem dX4_costToRead_51 : decode cX4_costToRead 51 = .ok (.getfield 36, 3) := by decide +kernel
theorem dX4_costToRead_54 : decode cX4_costToRead 54 = .ok (.iload_n 1, 1) := by decide +kernel
theorem dX4_costToRead_55 : decode cX4_costToRead 55 = .ok (.iaload, 1) := by decide +kernel
theorem dX4_costToRead_56 : decode cX4_costToRead 56 = .ok (.aload_n 0, 1) := by decide +kernel
theorem dX4_costToRead_57 : decode cX4_costToRead 57 = .ok (.getfield 11, 3) := by decide +kernel
theorem dX4_costToRead_60 : decode cX4_costToRead 60 = .ok (.iload_n 2, 1) := by decide +kernel
theorem dX4_costToRead_61 : decode cX4_costToRead 61 = .ok (.iaload, 1) := by decide +kernel
theorem dX4_costToRead_62 : decode cX4_costToRead 62 = .ok (.if_icmp .ne 18, 3) := by decide +kernel
theorem dX4_costToRead_65 : decode cX4_costToRead 65 = .ok (.aload_n 0, 1) := by decide +kernel
theorem dX4_costToRead_66 : decode cX4_costToRead 66 = .ok (.getfield 22, 3) := by decide +kernel
theorem dX4_costToRead_69 : decode cX4_costToRead 69 = .ok (.getfield 78, 3) := by decide +kernel
theorem dX4_costToRead_72 : decode cX4_costToRead 72 = .ok (.getfield 104, 3) := by decide +kernel
theorem dX4_costToRead_75 : decode cX4_costToRead 75 = .ok (.iload_n 1, 1) := by decide +kernel
theorem dX4_costToRead_76 : decode cX4_costToRead 76 = .ok (.iaload, 1) := by decide +kernel
theorem dX4_costToRead_77 : decode cX4_costToRead 77 = .ok (.goto 4, 3) := by decide +kernel
theorem dX4_costToRead_80 : decode cX4_costToRead 80 = .ok (.iconst (-1), 1) := by decide +kernel
theorem dX4_costToRead_81 : decode cX4_costToRead 81 = .ok (.ireturn, 1) := by decide +kernel
theorem dX4_costToSkip_0 : decode cX4_costToSkip 0 = .ok (.aload_n 0, 1) := by decide +kernel
theorem dX4_costToSkip_1 : decode cX4_costToSkip 1 = .ok (.getfield 26, 3) := by decide +kernel
theorem dX4_costToSkip_4 : decode cX4_costToSkip 4 = .ok (.iconst 2, 1) := by decide +kernel
theorem dX4_costToSkip_5 : decode cX4_costToSkip 5 = .ok (.if_icmp .ne 15, 3) := by decide +kernel
theorem dX4_costToSkip_8 : decode cX4_costToSkip 8 = .ok (.iload_n 1, 1) := by decide +kernel
theorem dX4_costToSkip_9 : decode cX4_costToSkip 9 = .ok (.aload_n 0, 1) := by decide +kernel
theorem dX4_costToSkip_10 : decode cX4_costToSkip 10 = .ok (.getfield 15, 3) := by decide +kernel
theorem dX4_costToSkip_13 : decode cX4_costToSkip 13 = .ok (.if_icmp .ge 7, 3) := by decide +kernel
theorem dX4_costToSkip_16 : decode cX4_costToSkip 16 = .ok (.iconst 1, 1) := by decide +kernel
theorem dX4_costToSkip_17 : decode cX4_costToSkip 17 = .ok (.goto 4, 3) := by decide +kernel
theorem dX4_costToSkip_20 : decode cX4_costToSkip 20 = .ok (.iconst (-1), 1) := by decide +kernel
theorem dX4_costToSkip_21 : decode cX4_costToSkip 21 = .ok (.ireturn, 1) := by decide +kernel
theorem dX4_cellAt_0 : decode cX4_cellAt 0 = .ok (.iload_n 0, 1) := by decide +kernel
theorem dX4_cellAt_1 : decode cX4_cellAt 1 = .ok (.bipush 32, 2) := by decide +kernel
theorem dX4_cellAt_3 : decode cX4_cellAt 3 = .ok (.imul, 1) := by decide +kernel
theorem dX4_cellAt_4 : decode cX4_cellAt 4 = .ok (.iload_n 1, 1) := by decide +kernel
theorem dX4_cellAt_5 : decode cX4_cellAt 5 = .ok (.iadd, 1) := by decide +kernel
theorem dX4_cellAt_6 : decode cX4_cellAt 6 = .ok (.ireturn, 1) := by decide +kernel
set_option maxRecDepth 20000 in
theorem ggX4_measure_X7_holds : GoodIn wsX4_measure wsX7_holds := goodIn_r _ [9] rfl (by decide +kernel)
set_option maxRecDepth 20000 in
theorem gX4_measure_X7_holds_n113 : GoodIn wsX4_measure (wsX7_holds) := ggX4_measure_X7_holds
set_option maxRecDepth 20000 in
theorem ggX4_measure_X4_cellAt : GoodIn wsX4_measure wsX4_cellAt := goodIn_r _ [13] rfl (by decide +kernel)
set_option maxRecDepth 20000 in
theorem gX4_measure_X4_cellAt : GoodIn wsX4_measure (va_wsS RX4 117 yX4_cellAt wsX4_cellAt) := goodIn_app (goodIn_of _ (by decide +kernel)) ggX4_measure_X4_cellAt
set_option maxRecDepth 20000 in
theorem ggX4_measure_X4_measureReading : GoodIn wsX4_measure wsX4_measureReading := goodIn_r _ [17, 2, 18, 19, 20, 21, 3, 10, 11, 12, 13, 22, 23, 24, 25, 26, 1, 27, 28, 29, 30, 31, 32, 33, 5, 6, 34, 35, 36, 37, 46, 47, 48, 49, 50, 51, 52, 53, 54, 55, 56, 57, 58, 59, 60, 61, 62, 63, 64, 65] rfl (by decide +kernel)
set_option maxRecDepth 20000 in
theorem gX4_measure_X4_measureReading : GoodIn wsX4_measure (wsV RX4 120 RX4 yX4_measureReading wsX4_measureReading) := goodIn_app (goodIn_of _ (by decide +kernel)) ggX4_measure_X4_measureReading
set_option maxRecDepth 20000 in
theorem ggX4_measure_X4_measureStaying : GoodIn wsX4_measure wsX4_measureStaying := goodIn_r _ [41, 2, 3, 18, 19, 20, 21, 10, 11, 12, 13, 42, 43, 44, 45, 27, 26, 29, 30, 31, 32, 33, 5, 6, 46, 47, 48, 49, 50, 51, 52, 53, 54, 55, 56, 57, 58, 59, 60, 61, 62, 63, 64, 65] rfl (by decide +kernel)
set_option maxRecDepth 20000 in
theorem gX4_measure_X4_measureStaying : GoodIn wsX4_measure (wsV RX4 124 RX4 yX4_measureStaying wsX4_measureStaying) := goodIn_app (goodIn_of _ (by decide +kernel)) ggX4_measure_X4_measureStaying
theorem dX4_measure_0 : decode cX4_measure 0 = .ok (.aload_n 0, 1) := by decide +kernel
theorem dX4_measure_1 : decode cX4_measure 1 = .ok (.getfield 15, 3) := by decide +kernel
theorem dX4_measure_4 : decode cX4_measure 4 = .ok (.istore_n 1, 1) := by decide +kernel
theorem dX4_measure_5 : decode cX4_measure 5 = .ok (.iload_n 1, 1) := by decide +kernel
theorem dX4_measure_6 : decode cX4_measure 6 = .ok (.ifCond .lt 86, 3) := by decide +kernel
theorem dX4_measure_9 : decode cX4_measure 9 = .ok (.iconst 0, 1) := by decide +kernel
theorem dX4_measure_10 : decode cX4_measure 10 = .ok (.istore_n 2, 1) := by decide +kernel
theorem dX4_measure_11 : decode cX4_measure 11 = .ok (.iload_n 2, 1) := by decide +kernel
theorem dX4_measure_12 : decode cX4_measure 12 = .ok (.aload_n 0, 1) := by decide +kernel
theorem dX4_measure_13 : decode cX4_measure 13 = .ok (.getfield 22, 3) := by decide +kernel
theorem dX4_measure_16 : decode cX4_measure 16 = .ok (.getfield 107, 3) := by decide +kernel
theorem dX4_measure_19 : decode cX4_measure 19 = .ok (.if_icmp .ge 57, 3) := by decide +kernel
theorem dX4_measure_22 : decode cX4_measure 22 = .ok (.iload_n 1, 1) := by decide +kernel
theorem dX4_measure_23 : decode cX4_measure 23 = .ok (.aload_n 0, 1) := by decide +kernel
theorem dX4_measure_24 : decode cX4_measure 24 = .ok (.getfield 15, 3) := by decide +kernel
theorem dX4_measure_27 : decode cX4_measure 27 = .ok (.if_icmp .ne 21, 3) := by decide +kernel
theorem dX4_measure_30 : decode cX4_measure 30 = .ok (.aload_n 0, 1) := by decide +kernel
theorem dX4_measure_31 : decode cX4_measure 31 = .ok (.getfield 22, 3) := by decide +kernel
theorem dX4_measure_34 : decode cX4_measure 34 = .ok (.getfield 110, 3) := by decide +kernel
theorem dX4_measure_37 : decode cX4_measure 37 = .ok (.iload_n 2, 1) := by decide +kernel
theorem dX4_measure_38 : decode cX4_measure 38 = .ok (.invokestatic 113, 3) := by decide +kernel
theorem dX4_measure_41 : decode cX4_measure 41 = .ok (.ifCond .eq 7, 3) := by decide +kernel
theorem dX4_measure_44 : decode cX4_measure 44 = .ok (.iconst 1, 1) := by decide +kernel
theorem dX4_measure_45 : decode cX4_measure 45 = .ok (.goto 4, 3) := by decide +kernel
theorem dX4_measure_48 : decode cX4_measure 48 = .ok (.iconst 0, 1) := by decide +kernel
theorem dX4_measure_49 : decode cX4_measure 49 = .ok (.istore_n 3, 1) := by decide +kernel
theorem dX4_measure_50 : decode cX4_measure 50 = .ok (.aload_n 0, 1) := by decide +kernel
theorem dX4_measure_51 : decode cX4_measure 51 = .ok (.getfield 45, 3) := by decide +kernel
theorem dX4_measure_54 : decode cX4_measure 54 = .ok (.iload_n 1, 1) := by decide +kernel
theorem dX4_measure_55 : decode cX4_measure 55 = .ok (.iload_n 2, 1) := by decide +kernel
theorem dX4_measure_56 : decode cX4_measure 56 = .ok (.invokestatic 117, 3) := by decide +kernel
theorem dX4_measure_59 : decode cX4_measure 59 = .ok (.iload_n 3, 1) := by decide +kernel
theorem dX4_measure_60 : decode cX4_measure 60 = .ok (.ifCond .eq 7, 3) := by decide +kernel
theorem dX4_measure_63 : decode cX4_measure 63 = .ok (.iconst 0, 1) := by decide +kernel
theorem dX4_measure_64 : decode cX4_measure 64 = .ok (.goto 5, 3) := by decide +kernel
theorem dX4_measure_67 : decode cX4_measure 67 = .ok (.ldc 103, 2) := by decide +kernel
theorem dX4_measure_69 : decode cX4_measure 69 = .ok (.iastore, 1) := by decide +kernel
theorem dX4_measure_70 : decode cX4_measure 70 = .ok (.iinc 2 1, 3) := by decide +kernel
theorem dX4_measure_73 : decode cX4_measure 73 = .ok (.goto (-62), 3) := by decide +kernel
theorem dX4_measure_76 : decode cX4_measure 76 = .ok (.aload_n 0, 1) := by decide +kernel
theorem dX4_measure_77 : decode cX4_measure 77 = .ok (.iload_n 1, 1) := by decide +kernel
theorem dX4_measure_78 : decode cX4_measure 78 = .ok (.invokevirtual 120, 3) := by decide +kernel
theorem dX4_measure_81 : decode cX4_measure 81 = .ok (.aload_n 0, 1) := by decide +kernel
theorem dX4_measure_82 : decode cX4_measure 82 = .ok (.iload_n 1, 1) := by decide +kernel
theorem dX4_measure_83 : decode cX4_measure 83 = .ok (.invokevirtual 124, 3) := by decide +kernel
theorem dX4_measure_86 : decode cX4_measure 86 = .ok (.iinc 1 (-1), 3) := by decide +kernel
theorem dX4_measure_89 : decode cX4_measure 89 = .ok (.goto (-84), 3) := by decide +kernel
theorem dX4_measure_92 : decode cX4_measure 92 = .ok (.return_, 1) := by decide +kernel
set_option maxRecDepth 20000 in
theorem ggX4_measureReading_X4_cellAt : GoodIn wsX4_measureReading wsX4_cellAt := goodIn_r _ [10] rfl (by decide +kernel)
set_option maxRecDepth 20000 in
theorem gX4_measureReading_X4_cellAt : GoodIn wsX4_measureReading (va_wsS RX4 117 yX4_cellAt wsX4_cellAt) := goodIn_app (goodIn_of _ (by decide +kernel)) ggX4_measureReading_X4_cellAt
set_option maxRecDepth 20000 in
theorem ggX4_measureReading_X4_costToRead : GoodIn wsX4_measureReading wsX4_costToRead := goodIn_r _ [14, 15, 16, 17, 18, 1, 2, 19, 30, 31, 32, 33, 34, 35, 36, 37, 38, 39, 40, 41, 42, 43, 44, 45, 46, 47, 48, 49] rfl (by decide +kernel)
set_option maxRecDepth 20000 in
theorem gX4_measureReading_X4_costToRead : GoodIn wsX4_measureReading (wsV RX4 127 RX4 yX4_costToRead wsX4_costToRead) := goodIn_app (goodIn_of _ (by decide +kernel)) ggX4_measureReading_X4_costToRead
set_option maxRecDepth 20000 in
theorem ggX4_measureReading_X4_lessen : GoodIn wsX4_measureReading wsX4_lessen := goodIn_r _ [23, 24, 25, 30, 31, 32, 33, 34, 35, 36, 37, 38, 39, 40, 41, 42, 43] rfl (by decide +kernel)
set_option maxRecDepth 20000 in
theorem gX4_measureReading_X4_lessen : GoodIn wsX4_measureReading (wsV RX4 130 RX4 yX4_lessen wsX4_lessen) := goodIn_app (goodIn_of _ (by decide +kernel)) ggX4_measureReading_X4_lessen
set_option maxRecDepth 20000 in
theorem ggX4_measureReading_X4_costToSkip : GoodIn wsX4_measureReading wsX4_costToSkip := goodIn_r _ [29, 17, 16, 30, 31, 32, 33, 34, 35, 36, 37, 38, 39, 40, 41, 42, 43] rfl (by decide +kernel)
set_option maxRecDepth 20000 in
theorem gX4_measureReading_X4_costToSkip : GoodIn wsX4_measureReading (wsV RX4 134 RX4 yX4_costToSkip wsX4_costToSkip) := goodIn_app (goodIn_of _ (by decide +kernel)) ggX4_measureReading_X4_costToSkip
theorem dX4_measureReading_0 : decode cX4_measureReading 0 = .ok (.iconst 0, 1) := by decide +kernel
theorem dX4_measureReading_1 : decode cX4_measureReading 1 = .ok (.istore_n 2, 1) := by decide +kernel
theorem dX4_measureReading_2 : decode cX4_measureReading 2 = .ok (.iload_n 2, 1) := by decide +kernel
theorem dX4_measureReading_3 : decode cX4_measureReading 3 = .ok (.aload_n 0, 1) := by decide +kernel
theorem dX4_measureReading_4 : decode cX4_measureReading 4 = .ok (.getfield 22, 3) := by decide +kernel
theorem dX4_measureReading_7 : decode cX4_measureReading 7 = .ok (.getfield 78, 3) := by decide +kernel
theorem dX4_measureReading_10 : decode cX4_measureReading 10 = .ok (.getfield 82, 3) := by decide +kernel
theorem dX4_measureReading_13 : decode cX4_measureReading 13 = .ok (.if_icmp .ge 42, 3) := by decide +kernel
theorem dX4_measureReading_16 : decode cX4_measureReading 16 = .ok (.aload_n 0, 1) := by decide +kernel
theorem dX4_measureReading_17 : decode cX4_measureReading 17 = .ok (.iload_n 1, 1) := by decide +kernel
theorem dX4_measureReading_18 : decode cX4_measureReading 18 = .ok (.aload_n 0, 1) := by decide +kernel
theorem dX4_measureReading_19 : decode cX4_measureReading 19 = .ok (.getfield 33, 3) := by decide +kernel
theorem dX4_measureReading_22 : decode cX4_measureReading 22 = .ok (.iload_n 2, 1) := by decide +kernel
theorem dX4_measureReading_23 : decode cX4_measureReading 23 = .ok (.iaload, 1) := by decide +kernel
theorem dX4_measureReading_24 : decode cX4_measureReading 24 = .ok (.invokestatic 117, 3) := by decide +kernel
theorem dX4_measureReading_27 : decode cX4_measureReading 27 = .ok (.aload_n 0, 1) := by decide +kernel
theorem dX4_measureReading_28 : decode cX4_measureReading 28 = .ok (.iload_n 2, 1) := by decide +kernel
theorem dX4_measureReading_29 : decode cX4_measureReading 29 = .ok (.iload_n 1, 1) := by decide +kernel
theorem dX4_measureReading_30 : decode cX4_measureReading 30 = .ok (.invokevirtual 127, 3) := by decide +kernel
theorem dX4_measureReading_33 : decode cX4_measureReading 33 = .ok (.iload_n 1, 1) := by decide +kernel
theorem dX4_measureReading_34 : decode cX4_measureReading 34 = .ok (.iconst 1, 1) := by decide +kernel
theorem dX4_measureReading_35 : decode cX4_measureReading 35 = .ok (.iadd, 1) := by decide +kernel
theorem dX4_measureReading_36 : decode cX4_measureReading 36 = .ok (.aload_n 0, 1) := by decide +kernel
theorem dX4_measureReading_37 : decode cX4_measureReading 37 = .ok (.getfield 42, 3) := by decide +kernel
theorem dX4_measureReading_40 : decode cX4_measureReading 40 = .ok (.iload_n 2, 1) := by decide +kernel
theorem dX4_measureReading_41 : decode cX4_measureReading 41 = .ok (.iaload, 1) := by decide +kernel
theorem dX4_measureReading_42 : decode cX4_measureReading 42 = .ok (.invokestatic 117, 3) := by decide +kernel
theorem dX4_measureReading_45 : decode cX4_measureReading 45 = .ok (.invokevirtual 130, 3) := by decide +kernel
theorem dX4_measureReading_48 : decode cX4_measureReading 48 = .ok (.pop, 1) := by decide +kernel
theorem dX4_measureReading_49 : decode cX4_measureReading 49 = .ok (.iinc 2 1, 3) := by decide +kernel
theorem dX4_measureReading_52 : decode cX4_measureReading 52 = .ok (.goto (-50), 3) := by decide +kernel
theorem dX4_measureReading_55 : decode cX4_measureReading 55 = .ok (.iconst 0, 1) := by decide +kernel
theorem dX4_measureReading_56 : decode cX4_measureReading 56 = .ok (.istore_n 2, 1) := by decide +kernel
theorem dX4_measureReading_57 : decode cX4_measureReading 57 = .ok (.iload_n 2, 1) := by decide +kernel
theorem dX4_measureReading_58 : decode cX4_measureReading 58 = .ok (.aload_n 0, 1) := by decide +kernel
theorem dX4_measureReading_59 : decode cX4_measureReading 59 = .ok (.getfield 22, 3) := by decide +kernel
theorem dX4_measureReading_62 : decode cX4_measureReading 62 = .ok (.getfield 107, 3) := by decide +kernel
theorem dX4_measureReading_65 : decode cX4_measureReading 65 = .ok (.if_icmp .ge 31, 3) := by decide +kernel
theorem dX4_measureReading_68 : decode cX4_measureReading 68 = .ok (.aload_n 0, 1) := by decide +kernel
theorem dX4_measureReading_69 : decode cX4_measureReading 69 = .ok (.iload_n 1, 1) := by decide +kernel
theorem dX4_measureReading_70 : decode cX4_measureReading 70 = .ok (.iload_n 2, 1) := by decide +kernel
theorem dX4_measureReading_71 : decode cX4_measureReading 71 = .ok (.invokestatic 117, 3) := by decide +kernel
theorem dX4_measureReading_74 : decode cX4_measureReading 74 = .ok (.aload_n 0, 1) := by decide +kernel
theorem dX4_measureReading_75 : decode cX4_measureReading 75 = .ok (.iload_n 1, 1) := by decide +kernel
theorem dX4_measureReading_76 : decode cX4_measureReading 76 = .ok (.invokevirtual 134, 3) := by decide +kernel
theorem dX4_measureReading_79 : decode cX4_measureReading 79 = .ok (.iload_n 1, 1) := by decide +kernel
theorem dX4_measureReading_80 : decode cX4_measureReading 80 = .ok (.iconst 1, 1) := by decide +kernel
theorem dX4_measureReading_81 : decode cX4_measureReading 81 = .ok (.iadd, 1) := by decide +kernel
theorem dX4_measureReading_82 : decode cX4_measureReading 82 = .ok (.iload_n 2, 1) := by decide +kernel
theorem dX4_measureReading_83 : decode cX4_measureReading 83 = .ok (.invokestatic 117, 3) := by decide +kernel
theorem dX4_measureReading_86 : decode cX4_measureReading 86 = .ok (.invokevirtual 130, 3) := by decide +kernel
theorem dX4_measureReading_89 : decode cX4_measureReading 89 = .ok (.pop, 1) := by decide +kernel
theorem dX4_measureReading_90 : decode cX4_measureReading 90 = .ok (.iinc 2 1, 3) := by decide +kernel
theorem dX4_measureReading_93 : decode cX4_measureReading 93 = .ok (.goto (-36), 3) := by decide +kernel
theorem dX4_measureReading_96 : decode cX4_measureReading 96 = .ok (.return_, 1) := by decide +kernel
set_option maxRecDepth 20000 in
theorem ggX4_measureStaying_X4_cellAt : GoodIn wsX4_measureStaying wsX4_cellAt := goodIn_r _ [10] rfl (by decide +kernel)
set_option maxRecDepth 20000 in
theorem gX4_measureStaying_X4_cellAt : GoodIn wsX4_measureStaying (va_wsS RX4 117 yX4_cellAt wsX4_cellAt) := goodIn_app (goodIn_of _ (by decide +kernel)) ggX4_measureStaying_X4_cellAt
set_option maxRecDepth 20000 in
theorem ggX4_measureStaying_X4_costToStay : GoodIn wsX4_measureStaying wsX4_costToStay := goodIn_r _ [14, 15, 16, 1, 3, 17, 24, 25, 26, 27, 28, 29, 30, 31, 32, 33, 34, 35, 36, 37, 38, 39, 40, 41, 42, 43] rfl (by decide +kernel)
set_option maxRecDepth 20000 in
theorem gX4_measureStaying_X4_costToStay : GoodIn wsX4_measureStaying (wsV RX4 137 RX4 yX4_costToStay wsX4_costToStay) := goodIn_app (goodIn_of _ (by decide +kernel)) ggX4_measureStaying_X4_costToStay
set_option maxRecDepth 20000 in
theorem ggX4_measureStaying_X4_lessen : GoodIn wsX4_measureStaying wsX4_lessen := goodIn_r _ [21, 22, 23, 24, 25, 26, 27, 28, 29, 30, 31, 32, 33, 34, 35, 36, 37] rfl (by decide +kernel)
set_option maxRecDepth 20000 in
theorem gX4_measureStaying_X4_lessen : GoodIn wsX4_measureStaying (wsV RX4 130 RX4 yX4_lessen wsX4_lessen) := goodIn_app (goodIn_of _ (by decide +kernel)) ggX4_measureStaying_X4_lessen
theorem dX4_measureStaying_0 : decode cX4_measureStaying 0 = .ok (.iconst 1, 1) := by decide +kernel
theorem dX4_measureStaying_1 : decode cX4_measureStaying 1 = .ok (.istore_n 2, 1) := by decide +kernel
theorem dX4_measureStaying_2 : decode cX4_measureStaying 2 = .ok (.iconst 0, 1) := by decide +kernel
theorem dX4_measureStaying_3 : decode cX4_measureStaying 3 = .ok (.istore_n 3, 1) := by decide +kernel
theorem dX4_measureStaying_4 : decode cX4_measureStaying 4 = .ok (.iload_n 2, 1) := by decide +kernel
theorem dX4_measureStaying_5 : decode cX4_measureStaying 5 = .ok (.ifCond .eq 83, 3) := by decide +kernel
theorem dX4_measureStaying_8 : decode cX4_measureStaying 8 = .ok (.iload_n 3, 1) := by decide +kernel
theorem dX4_measureStaying_9 : decode cX4_measureStaying 9 = .ok (.aload_n 0, 1) := by decide +kernel
theorem dX4_measureStaying_10 : decode cX4_measureStaying 10 = .ok (.getfield 22, 3) := by decide +kernel
theorem dX4_measureStaying_13 : decode cX4_measureStaying 13 = .ok (.getfield 107, 3) := by decide +kernel
theorem dX4_measureStaying_16 : decode cX4_measureStaying 16 = .ok (.if_icmp .ge 72, 3) := by decide +kernel
theorem dX4_measureStaying_19 : decode cX4_measureStaying 19 = .ok (.iconst 0, 1) := by decide +kernel
theorem dX4_measureStaying_20 : decode cX4_measureStaying 20 = .ok (.istore_n 2, 1) := by decide +kernel
theorem dX4_measureStaying_21 : decode cX4_measureStaying 21 = .ok (.iconst 0, 1) := by decide +kernel
theorem dX4_measureStaying_22 : decode cX4_measureStaying 22 = .ok (.istore 4, 2) := by decide +kernel
theorem dX4_measureStaying_24 : decode cX4_measureStaying 24 = .ok (.iload 4, 2) := by decide +kernel
theorem dX4_measureStaying_26 : decode cX4_measureStaying 26 = .ok (.aload_n 0, 1) := by decide +kernel
theorem dX4_measureStaying_27 : decode cX4_measureStaying 27 = .ok (.getfield 22, 3) := by decide +kernel
theorem dX4_measureStaying_30 : decode cX4_measureStaying 30 = .ok (.getfield 78, 3) := by decide +kernel
theorem dX4_measureStaying_33 : decode cX4_measureStaying 33 = .ok (.getfield 82, 3) := by decide +kernel
theorem dX4_measureStaying_36 : decode cX4_measureStaying 36 = .ok (.if_icmp .ge 46, 3) := by decide +kernel
theorem dX4_measureStaying_39 : decode cX4_measureStaying 39 = .ok (.aload_n 0, 1) := by decide +kernel
theorem dX4_measureStaying_40 : decode cX4_measureStaying 40 = .ok (.iload_n 1, 1) := by decide +kernel
theorem dX4_measureStaying_41 : decode cX4_measureStaying 41 = .ok (.aload_n 0, 1) := by decide +kernel
theorem dX4_measureStaying_42 : decode cX4_measureStaying 42 = .ok (.getfield 33, 3) := by decide +kernel
theorem dX4_measureStaying_45 : decode cX4_measureStaying 45 = .ok (.iload 4, 2) := by decide +kernel
theorem dX4_measureStaying_47 : decode cX4_measureStaying 47 = .ok (.iaload, 1) := by decide +kernel
theorem dX4_measureStaying_48 : decode cX4_measureStaying 48 = .ok (.invokestatic 117, 3) := by decide +kernel
theorem dX4_measureStaying_51 : decode cX4_measureStaying 51 = .ok (.aload_n 0, 1) := by decide +kernel
theorem dX4_measureStaying_52 : decode cX4_measureStaying 52 = .ok (.iload 4, 2) := by decide +kernel
theorem dX4_measureStaying_54 : decode cX4_measureStaying 54 = .ok (.invokevirtual 137, 3) := by decide +kernel
theorem dX4_measureStaying_57 : decode cX4_measureStaying 57 = .ok (.iload_n 1, 1) := by decide +kernel
theorem dX4_measureStaying_58 : decode cX4_measureStaying 58 = .ok (.aload_n 0, 1) := by decide +kernel
theorem dX4_measureStaying_59 : decode cX4_measureStaying 59 = .ok (.getfield 42, 3) := by decide +kernel
theorem dX4_measureStaying_62 : decode cX4_measureStaying 62 = .ok (.iload 4, 2) := by decide +kernel
theorem dX4_measureStaying_64 : decode cX4_measureStaying 64 = .ok (.iaload, 1) := by decide +kernel
theorem dX4_measureStaying_65 : decode cX4_measureStaying 65 = .ok (.invokestatic 117, 3) := by decide +kernel
theorem dX4_measureStaying_68 : decode cX4_measureStaying 68 = .ok (.invokevirtual 130, 3) := by decide +kernel
theorem dX4_measureStaying_71 : decode cX4_measureStaying 71 = .ok (.ifCond .eq 5, 3) := by decide +kernel
theorem dX4_measureStaying_74 : decode cX4_measureStaying 74 = .ok (.iconst 1, 1) := by decide +kernel
theorem dX4_measureStaying_75 : decode cX4_measureStaying 75 = .ok (.istore_n 2, 1) := by decide +kernel
theorem dX4_measureStaying_76 : decode cX4_measureStaying 76 = .ok (.iinc 4 1, 3) := by decide +kernel
theorem dX4_measureStaying_79 : decode cX4_measureStaying 79 = .ok (.goto (-55), 3) := by decide +kernel
theorem dX4_measureStaying_82 : decode cX4_measureStaying 82 = .ok (.iinc 3 1, 3) := by decide +kernel
theorem dX4_measureStaying_85 : decode cX4_measureStaying 85 = .ok (.goto (-81), 3) := by decide +kernel
theorem dX4_measureStaying_88 : decode cX4_measureStaying 88 = .ok (.return_, 1) := by decide +kernel
theorem dX4_lessen_0 : decode cX4_lessen 0 = .ok (.iload_n 2, 1) := by decide +kernel
theorem dX4_lessen_1 : decode cX4_lessen 1 = .ok (.iconst (-1), 1) := by decide +kernel
theorem dX4_lessen_2 : decode cX4_lessen 2 = .ok (.if_icmp .eq 31, 3) := by decide +kernel
theorem dX4_lessen_5 : decode cX4_lessen 5 = .ok (.aload_n 0, 1) := by decide +kernel
theorem dX4_lessen_6 : decode cX4_lessen 6 = .ok (.getfield 45, 3) := by decide +kernel
theorem dX4_lessen_9 : decode cX4_lessen 9 = .ok (.iload_n 3, 1) := by decide +kernel
theorem dX4_lessen_10 : decode cX4_lessen 10 = .ok (.iaload, 1) := by decide +kernel
theorem dX4_lessen_11 : decode cX4_lessen 11 = .ok (.ldc 103, 2) := by decide +kernel
theorem dX4_lessen_13 : decode cX4_lessen 13 = .ok (.if_icmp .ge 20, 3) := by decide +kernel
theorem dX4_lessen_16 : decode cX4_lessen 16 = .ok (.aload_n 0, 1) := by decide +kernel
theorem dX4_lessen_17 : decode cX4_lessen 17 = .ok (.getfield 45, 3) := by decide +kernel
theorem dX4_lessen_20 : decode cX4_lessen 20 = .ok (.iload_n 3, 1) := by decide +kernel
theorem dX4_lessen_21 : decode cX4_lessen 21 = .ok (.iaload, 1) := by decide +kernel
theorem dX4_lessen_22 : decode cX4_lessen 22 = .ok (.iload_n 2, 1) := by decide +kernel
theorem dX4_lessen_23 : decode cX4_lessen 23 = .ok (.iadd, 1) := by decide +kernel
theorem dX4_lessen_24 : decode cX4_lessen 24 = .ok (.aload_n 0, 1) := by decide +kernel
theorem dX4_lessen_25 : decode cX4_lessen 25 = .ok (.getfield 45, 3) := by decide +kernel
theorem dX4_lessen_28 : decode cX4_lessen 28 = .ok (.iload_n 1, 1) := by decide +kernel
theorem dX4_lessen_29 : decode cX4_lessen 29 = .ok (.iaload, 1) := by decide +kernel
theorem dX4_lessen_30 : decode cX4_lessen 30 = .ok (.if_icmp .lt 5, 3) := by decide +kernel
theorem dX4_lessen_33 : decode cX4_lessen 33 = .ok (.iconst 0, 1) := by decide +kernel
theorem dX4_lessen_34 : decode cX4_lessen 34 = .ok (.ireturn, 1) := by decide +kernel
theorem dX4_lessen_35 : decode cX4_lessen 35 = .ok (.aload_n 0, 1) := by decide +kernel
theorem dX4_lessen_36 : decode cX4_lessen 36 = .ok (.getfield 45, 3) := by decide +kernel
theorem dX4_lessen_39 : decode cX4_lessen 39 = .ok (.iload_n 1, 1) := by decide +kernel
theorem dX4_lessen_40 : decode cX4_lessen 40 = .ok (.aload_n 0, 1) := by decide +kernel
theorem dX4_lessen_41 : decode cX4_lessen 41 = .ok (.getfield 45, 3) := by decide +kernel
theorem dX4_lessen_44 : decode cX4_lessen 44 = .ok (.iload_n 3, 1) := by decide +kernel
theorem dX4_lessen_45 : decode cX4_lessen 45 = .ok (.iaload, 1) := by decide +kernel
theorem dX4_lessen_46 : decode cX4_lessen 46 = .ok (.iload_n 2, 1) := by decide +kernel
theorem dX4_lessen_47 : decode cX4_lessen 47 = .ok (.iadd, 1) := by decide +kernel
theorem dX4_lessen_48 : decode cX4_lessen 48 = .ok (.iastore, 1) := by decide +kernel
theorem dX4_lessen_49 : decode cX4_lessen 49 = .ok (.iconst 1, 1) := by decide +kernel
theorem dX4_lessen_50 : decode cX4_lessen 50 = .ok (.ireturn, 1) := by decide +kernel
set_option maxRecDepth 20000 in
theorem ggX4_find_X4_clearSets : GoodIn wsX4_find wsX4_clearSets := goodIn_r _ [12, 5, 79, 80, 81, 82, 83, 84, 85, 86, 87, 88, 89, 90, 91, 92] rfl (by decide +kernel)
set_option maxRecDepth 20000 in
theorem gX4_find_X4_clearSets : GoodIn wsX4_find (wsV RX4 140 RX4 yX4_clearSets wsX4_clearSets) := goodIn_app (goodIn_of _ (by decide +kernel)) ggX4_find_X4_clearSets
set_option maxRecDepth 20000 in
theorem ggX4_find_X4_enter : GoodIn wsX4_find wsX4_enter := goodIn_r _ [16, 17, 5, 6, 18, 19, 20, 21, 22, 11, 23, 24, 25, 26, 27, 28, 29, 30, 31, 32, 33, 34, 35, 36, 37, 38, 39, 40, 41, 42, 43, 44, 45, 46, 47, 48, 49, 50, 3, 4, 1, 51, 52, 53, 54, 55, 56, 57, 58, 59, 60, 61, 62, 63, 64, 65, 66, 67, 68, 69, 70, 71, 79, 80, 81, 82, 83, 84, 85, 86, 87, 88, 89, 90, 91, 92, 93, 94, 95, 96, 97, 98] rfl (by decide +kernel)
set_option maxRecDepth 20000 in
theorem gX4_find_X4_enter : GoodIn wsX4_find (wsV RX4 143 RX4 yX4_enter wsX4_enter) := goodIn_app (goodIn_of _ (by decide +kernel)) ggX4_find_X4_enter
set_option maxRecDepth 20000 in
theorem ggX4_find_X4_lowestIn : GoodIn wsX4_find wsX4_lowestIn := goodIn_r _ [74, 29, 30, 31] rfl (by decide +kernel)
set_option maxRecDepth 20000 in
theorem gX4_find_X4_lowestIn : GoodIn wsX4_find (va_wsS RX4 147 yX4_lowestIn wsX4_lowestIn) := goodIn_app (goodIn_of _ (by decide +kernel)) ggX4_find_X4_lowestIn
set_option maxRecDepth 20000 in
theorem ggX4_find_X4_step : GoodIn wsX4_find wsX4_step := goodIn_r _ [78, 17, 5, 18, 25, 26, 27, 28, 8, 9, 10, 11, 12, 32, 33, 34, 35, 36, 29, 30, 31, 37, 38, 39, 40, 41, 42, 43, 44, 45, 46, 47, 48, 49, 50, 3, 4, 1, 55, 56, 57, 58, 59, 60, 61, 62, 63, 79, 80, 81, 82, 83, 84, 85, 86, 87, 88, 89, 90, 91, 92, 93, 94, 95, 96, 97, 98] rfl (by decide +kernel)
set_option maxRecDepth 20000 in
theorem gX4_find_X4_step : GoodIn wsX4_find (wsV RX4 150 RX4 yX4_step wsX4_step) := goodIn_app (goodIn_of _ (by decide +kernel)) ggX4_find_X4_step
theorem dX4_find_0 : decode cX4_find 0 = .ok (.aload_n 0, 1) := by decide +kernel
theorem dX4_find_1 : decode cX4_find 1 = .ok (.iload_n 2, 1) := by decide +kernel
theorem dX4_find_2 : decode cX4_find 2 = .ok (.putfield 29, 3) := by decide +kernel
theorem dX4_find_5 : decode cX4_find 5 = .ok (.aload_n 0, 1) := by decide +kernel
theorem dX4_find_6 : decode cX4_find 6 = .ok (.iconst 0, 1) := by decide +kernel
theorem dX4_find_7 : decode cX4_find 7 = .ok (.putfield 57, 3) := by decide +kernel
theorem dX4_find_10 : decode cX4_find 10 = .ok (.aload_n 0, 1) := by decide +kernel
theorem dX4_find_11 : decode cX4_find 11 = .ok (.getfield 45, 3) := by decide +kernel
theorem dX4_find_14 : decode cX4_find 14 = .ok (.iconst 0, 1) := by decide +kernel
theorem dX4_find_15 : decode cX4_find 15 = .ok (.iaload, 1) := by decide +kernel
theorem dX4_find_16 : decode cX4_find 16 = .ok (.ldc 103, 2) := by decide +kernel
theorem dX4_find_18 : decode cX4_find 18 = .ok (.if_icmp .lt 5, 3) := by decide +kernel
theorem dX4_find_21 : decode cX4_find 21 = .ok (.iconst 0, 1) := by decide +kernel
theorem dX4_find_22 : decode cX4_find 22 = .ok (.ireturn, 1) := by decide +kernel
theorem dX4_find_23 : decode cX4_find 23 = .ok (.aload_n 0, 1) := by decide +kernel
theorem dX4_find_24 : decode cX4_find 24 = .ok (.iconst 0, 1) := by decide +kernel
theorem dX4_find_25 : decode cX4_find 25 = .ok (.invokevirtual 140, 3) := by decide +kernel
theorem dX4_find_28 : decode cX4_find 28 = .ok (.aload_n 0, 1) := by decide +kernel
theorem dX4_find_29 : decode cX4_find 29 = .ok (.getfield 48, 3) := by decide +kernel
theorem dX4_find_32 : decode cX4_find 32 = .ok (.iconst 0, 1) := by decide +kernel
theorem dX4_find_33 : decode cX4_find 33 = .ok (.iconst 1, 1) := by decide +kernel
theorem dX4_find_34 : decode cX4_find 34 = .ok (.iastore, 1) := by decide +kernel
theorem dX4_find_35 : decode cX4_find 35 = .ok (.aload_n 0, 1) := by decide +kernel
theorem dX4_find_36 : decode cX4_find 36 = .ok (.iconst 0, 1) := by decide +kernel
theorem dX4_find_37 : decode cX4_find 37 = .ok (.invokevirtual 143, 3) := by decide +kernel
theorem dX4_find_40 : decode cX4_find 40 = .ok (.ifCond .eq 7, 3) := by decide +kernel
theorem dX4_find_43 : decode cX4_find 43 = .ok (.iconst 1, 1) := by decide +kernel
theorem dX4_find_44 : decode cX4_find 44 = .ok (.goto 4, 3) := by decide +kernel
theorem dX4_find_47 : decode cX4_find 47 = .ok (.iconst 0, 1) := by decide +kernel
theorem dX4_find_48 : decode cX4_find 48 = .ok (.istore_n 3, 1) := by decide +kernel
theorem dX4_find_49 : decode cX4_find 49 = .ok (.iconst 0, 1) := by decide +kernel
theorem dX4_find_50 : decode cX4_find 50 = .ok (.istore 4, 2) := by decide +kernel
theorem dX4_find_52 : decode cX4_find 52 = .ok (.iconst 0, 1) := by decide +kernel
theorem dX4_find_53 : decode cX4_find 53 = .ok (.istore 5, 2) := by decide +kernel
theorem dX4_find_55 : decode cX4_find 55 = .ok (.iload_n 3, 1) := by decide +kernel
theorem dX4_find_56 : decode cX4_find 56 = .ok (.iload_n 1, 1) := by decide +kernel
theorem dX4_find_57 : decode cX4_find 57 = .ok (.if_icmp .ge 110, 3) := by decide +kernel
theorem dX4_find_60 : decode cX4_find 60 = .ok (.iload 4, 2) := by decide +kernel
theorem dX4_find_62 : decode cX4_find 62 = .ok (.ifCond .lt 105, 3) := by decide +kernel
theorem dX4_find_65 : decode cX4_find 65 = .ok (.iload 5, 2) := by decide +kernel
theorem dX4_find_67 : decode cX4_find 67 = .ok (.sipush 11560, 3) := by decide +kernel
theorem dX4_find_70 : decode cX4_find 70 = .ok (.if_icmp .ge 97, 3) := by decide +kernel
theorem dX4_find_73 : decode cX4_find 73 = .ok (.aload_n 0, 1) := by decide +kernel
theorem dX4_find_74 : decode cX4_find 74 = .ok (.getfield 51, 3) := by decide +kernel
theorem dX4_find_77 : decode cX4_find 77 = .ok (.iload 4, 2) := by decide +kernel
theorem dX4_find_79 : decode cX4_find 79 = .ok (.iaload, 1) := by decide +kernel
theorem dX4_find_80 : decode cX4_find 80 = .ok (.invokestatic 147, 3) := by decide +kernel
theorem dX4_find_83 : decode cX4_find 83 = .ok (.istore 6, 2) := by decide +kernel
theorem dX4_find_85 : decode cX4_find 85 = .ok (.iload 6, 2) := by decide +kernel
theorem dX4_find_87 : decode cX4_find 87 = .ok (.iconst (-1), 1) := by decide +kernel
theorem dX4_find_88 : decode cX4_find 88 = .ok (.if_icmp .eq 13, 3) := by decide +kernel
theorem dX4_find_91 : decode cX4_find 91 = .ok (.iload 4, 2) := by decide +kernel
theorem dX4_find_93 : decode cX4_find 93 = .ok (.iconst 1, 1) := by decide +kernel
theorem dX4_find_94 : decode cX4_find 94 = .ok (.iadd, 1) := by decide +kernel
theorem dX4_find_95 : decode cX4_find 95 = .ok (.sipush 288, 3) := by decide +kernel
theorem dX4_find_98 : decode cX4_find 98 = .ok (.if_icmp .lt 9, 3) := by decide +kernel
theorem dX4_find_101 : decode cX4_find 101 = .ok (.iinc 4 (-1), 3) := by decide +kernel
theorem dX4_find_104 : decode cX4_find 104 = .ok (.goto 57, 3) := by decide +kernel
theorem dX4_find_107 : decode cX4_find 107 = .ok (.aload_n 0, 1) := by decide +kernel
theorem dX4_find_108 : decode cX4_find 108 = .ok (.getfield 51, 3) := by decide +kernel
theorem dX4_find_111 : decode cX4_find 111 = .ok (.iload 4, 2) := by decide +kernel
theorem dX4_find_113 : decode cX4_find 113 = .ok (.dup2, 1) := by decide +kernel
theorem dX4_find_114 : decode cX4_find 114 = .ok (.iaload, 1) := by decide +kernel
theorem dX4_find_115 : decode cX4_find 115 = .ok (.iconst 1, 1) := by decide +kernel
theorem dX4_find_116 : decode cX4_find 116 = .ok (.iload 6, 2) := by decide +kernel
theorem dX4_find_118 : decode cX4_find 118 = .ok (.ishl, 1) := by decide +kernel
theorem dX4_find_119 : decode cX4_find 119 = .ok (.iconst (-1), 1) := by decide +kernel
theorem dX4_find_120 : decode cX4_find 120 = .ok (.ixor, 1) := by decide +kernel
theorem dX4_find_121 : decode cX4_find 121 = .ok (.iand, 1) := by decide +kernel
theorem dX4_find_122 : decode cX4_find 122 = .ok (.iastore, 1) := by decide +kernel
theorem dX4_find_123 : decode cX4_find 123 = .ok (.aload_n 0, 1) := by decide +kernel
theorem dX4_find_124 : decode cX4_find 124 = .ok (.getfield 54, 3) := by decide +kernel
theorem dX4_find_127 : decode cX4_find 127 = .ok (.iload 4, 2) := by decide +kernel
theorem dX4_find_129 : decode cX4_find 129 = .ok (.iload 6, 2) := by decide +kernel
theorem dX4_find_131 : decode cX4_find 131 = .ok (.iastore, 1) := by decide +kernel
theorem dX4_find_132 : decode cX4_find 132 = .ok (.aload_n 0, 1) := by decide +kernel
theorem dX4_find_133 : decode cX4_find 133 = .ok (.iload 4, 2) := by decide +kernel
theorem dX4_find_135 : decode cX4_find 135 = .ok (.iload 6, 2) := by decide +kernel
theorem dX4_find_137 : decode cX4_find 137 = .ok (.invokevirtual 150, 3) := by decide +kernel
theorem dX4_find_140 : decode cX4_find 140 = .ok (.iinc 4 1, 3) := by decide +kernel
theorem dX4_find_143 : decode cX4_find 143 = .ok (.aload_n 0, 1) := by decide +kernel
theorem dX4_find_144 : decode cX4_find 144 = .ok (.iload 4, 2) := by decide +kernel
theorem dX4_find_146 : decode cX4_find 146 = .ok (.invokevirtual 143, 3) := by decide +kernel
theorem dX4_find_149 : decode cX4_find 149 = .ok (.ifCond .eq 12, 3) := by decide +kernel
theorem dX4_find_152 : decode cX4_find 152 = .ok (.iinc 3 1, 3) := by decide +kernel
theorem dX4_find_155 : decode cX4_find 155 = .ok (.aload_n 0, 1) := by decide +kernel
theorem dX4_find_156 : decode cX4_find 156 = .ok (.iload 4, 2) := by decide +kernel
theorem dX4_find_158 : decode cX4_find 158 = .ok (.putfield 57, 3) := by decide +kernel
theorem dX4_find_161 : decode cX4_find 161 = .ok (.iinc 5 1, 3) := by decide +kernel
theorem dX4_find_164 : decode cX4_find 164 = .ok (.goto (-109), 3) := by decide +kernel
theorem dX4_find_167 : decode cX4_find 167 = .ok (.iload_n 3, 1) := by decide +kernel
theorem dX4_find_168 : decode cX4_find 168 = .ok (.ireturn, 1) := by decide +kernel
set_option maxRecDepth 20000 in
theorem ggX4_lowestIn_X7_holds : GoodIn wsX4_lowestIn wsX7_holds := goodIn_r _ [3] rfl (by decide +kernel)
set_option maxRecDepth 20000 in
theorem gX4_lowestIn_X7_holds_n113 : GoodIn wsX4_lowestIn (wsX7_holds) := ggX4_lowestIn_X7_holds
theorem dX4_lowestIn_0 : decode cX4_lowestIn 0 = .ok (.iconst 0, 1) := by decide +kernel
theorem dX4_lowestIn_1 : decode cX4_lowestIn 1 = .ok (.istore_n 1, 1) := by decide +kernel
theorem dX4_lowestIn_2 : decode cX4_lowestIn 2 = .ok (.iload_n 1, 1) := by decide +kernel
theorem dX4_lowestIn_3 : decode cX4_lowestIn 3 = .ok (.bipush 8, 2) := by decide +kernel
theorem dX4_lowestIn_5 : decode cX4_lowestIn 5 = .ok (.if_icmp .ge 19, 3) := by decide +kernel
theorem dX4_lowestIn_8 : decode cX4_lowestIn 8 = .ok (.iload_n 0, 1) := by decide +kernel
theorem dX4_lowestIn_9 : decode cX4_lowestIn 9 = .ok (.iload_n 1, 1) := by decide +kernel
theorem dX4_lowestIn_10 : decode cX4_lowestIn 10 = .ok (.invokestatic 113, 3) := by decide +kernel
theorem dX4_lowestIn_13 : decode cX4_lowestIn 13 = .ok (.ifCond .eq 5, 3) := by decide +kernel
theorem dX4_lowestIn_16 : decode cX4_lowestIn 16 = .ok (.iload_n 1, 1) := by decide +kernel
theorem dX4_lowestIn_17 : decode cX4_lowestIn 17 = .ok (.ireturn, 1) := by decide +kernel
theorem dX4_lowestIn_18 : decode cX4_lowestIn 18 = .ok (.iinc 1 1, 3) := by decide +kernel
theorem dX4_lowestIn_21 : decode cX4_lowestIn 21 = .ok (.goto (-19), 3) := by decide +kernel
theorem dX4_lowestIn_24 : decode cX4_lowestIn 24 = .ok (.iconst (-1), 1) := by decide +kernel
theorem dX4_lowestIn_25 : decode cX4_lowestIn 25 = .ok (.ireturn, 1) := by decide +kernel
theorem dX4_clearSets_0 : decode cX4_clearSets 0 = .ok (.iconst 0, 1) := by decide +kernel
theorem dX4_clearSets_1 : decode cX4_clearSets 1 = .ok (.istore_n 2, 1) := by decide +kernel
theorem dX4_clearSets_2 : decode cX4_clearSets 2 = .ok (.iload_n 2, 1) := by decide +kernel
theorem dX4_clearSets_3 : decode cX4_clearSets 3 = .ok (.bipush 9, 2) := by decide +kernel
theorem dX4_clearSets_5 : decode cX4_clearSets 5 = .ok (.if_icmp .ge 21, 3) := by decide +kernel
theorem dX4_clearSets_8 : decode cX4_clearSets 8 = .ok (.aload_n 0, 1) := by decide +kernel
theorem dX4_clearSets_9 : decode cX4_clearSets 9 = .ok (.getfield 48, 3) := by decide +kernel
theorem dX4_clearSets_12 : decode cX4_clearSets 12 = .ok (.iload_n 1, 1) := by decide +kernel
theorem dX4_clearSets_13 : decode cX4_clearSets 13 = .ok (.bipush 9, 2) := by decide +kernel
theorem dX4_clearSets_15 : decode cX4_clearSets 15 = .ok (.imul, 1) := by decide +kernel
theorem dX4_clearSets_16 : decode cX4_clearSets 16 = .ok (.iload_n 2, 1) := by decide +kernel
theorem dX4_clearSets_17 : decode cX4_clearSets 17 = .ok (.iadd, 1) := by decide +kernel
theorem dX4_clearSets_18 : decode cX4_clearSets 18 = .ok (.iconst 0, 1) := by decide +kernel
theorem dX4_clearSets_19 : decode cX4_clearSets 19 = .ok (.iastore, 1) := by decide +kernel
theorem dX4_clearSets_20 : decode cX4_clearSets 20 = .ok (.iinc 2 1, 3) := by decide +kernel
theorem dX4_clearSets_23 : decode cX4_clearSets 23 = .ok (.goto (-21), 3) := by decide +kernel
theorem dX4_clearSets_26 : decode cX4_clearSets 26 = .ok (.return_, 1) := by decide +kernel
set_option maxRecDepth 20000 in
theorem ggX4_enter_X4_spreadStaying : GoodIn wsX4_enter wsX4_spreadStaying := goodIn_r _ [10, 4, 11, 12, 13, 14, 2, 15, 16, 17, 18, 19, 20, 21, 9, 22, 23, 24, 25, 26, 27, 28, 29, 30, 31, 32, 33, 34, 35, 36, 37, 38, 39, 40, 62, 63, 64, 65, 66, 67, 68, 69, 70, 71, 72, 73, 74, 75, 76, 77, 78, 79, 80, 81] rfl (by decide +kernel)
set_option maxRecDepth 20000 in
theorem gX4_enter_X4_spreadStaying : GoodIn wsX4_enter (wsV RX4 154 RX4 yX4_spreadStaying wsX4_spreadStaying) := goodIn_app (goodIn_of _ (by decide +kernel)) ggX4_enter_X4_spreadStaying
set_option maxRecDepth 20000 in
theorem ggX4_enter_X4_spreadReading : GoodIn wsX4_enter wsX4_spreadReading := goodIn_r _ [44, 4, 12, 13, 14, 2, 15, 11, 45, 46, 47, 9, 48, 23, 16, 17, 18, 24, 25, 26, 49, 50, 51, 52, 32, 1, 31, 53, 33, 34, 35, 36, 37, 38, 39, 40, 54, 55, 56, 57, 62, 63, 64, 65, 66, 67, 68, 69, 70, 71, 72, 73, 74, 75, 76, 77, 78, 79, 80, 81] rfl (by decide +kernel)
set_option maxRecDepth 20000 in
theorem gX4_enter_X4_spreadReading : GoodIn wsX4_enter (wsV RX4 157 RX4 yX4_spreadReading wsX4_spreadReading) := goodIn_app (goodIn_of _ (by decide +kernel)) ggX4_enter_X4_spreadReading
set_option maxRecDepth 20000 in
theorem ggX4_enter_X4_lettersFrom : GoodIn wsX4_enter wsX4_lettersFrom := goodIn_r _ [61, 1, 2, 4, 12, 13, 14, 16, 17, 18, 19, 20, 21, 9, 22, 23, 15, 24, 25, 26, 27, 28, 29, 30, 31, 32, 33, 34, 35, 36, 37, 38, 39, 40, 45, 46, 47, 48, 49, 50, 51, 52, 53, 62, 63, 64, 65, 66, 67, 68, 69, 70, 71, 72, 73, 74, 75, 76, 77, 78, 79, 80, 81] rfl (by decide +kernel)
set_option maxRecDepth 20000 in
theorem gX4_enter_X4_lettersFrom : GoodIn wsX4_enter (wsV RX4 160 RX4 yX4_lettersFrom wsX4_lettersFrom) := goodIn_app (goodIn_of _ (by decide +kernel)) ggX4_enter_X4_lettersFrom
theorem dX4_enter_0 : decode cX4_enter 0 = .ok (.iconst 0, 1) := by decide +kernel
theorem dX4_enter_1 : decode cX4_enter 1 = .ok (.istore_n 2, 1) := by decide +kernel
theorem dX4_enter_2 : decode cX4_enter 2 = .ok (.iload_n 2, 1) := by decide +kernel
theorem dX4_enter_3 : decode cX4_enter 3 = .ok (.aload_n 0, 1) := by decide +kernel
theorem dX4_enter_4 : decode cX4_enter 4 = .ok (.getfield 15, 3) := by decide +kernel
theorem dX4_enter_7 : decode cX4_enter 7 = .ok (.if_icmp .gt 45, 3) := by decide +kernel
theorem dX4_enter_10 : decode cX4_enter 10 = .ok (.aload_n 0, 1) := by decide +kernel
theorem dX4_enter_11 : decode cX4_enter 11 = .ok (.getfield 48, 3) := by decide +kernel
theorem dX4_enter_14 : decode cX4_enter 14 = .ok (.iload_n 1, 1) := by decide +kernel
theorem dX4_enter_15 : decode cX4_enter 15 = .ok (.bipush 9, 2) := by decide +kernel
theorem dX4_enter_17 : decode cX4_enter 17 = .ok (.imul, 1) := by decide +kernel
theorem dX4_enter_18 : decode cX4_enter 18 = .ok (.iload_n 2, 1) := by decide +kernel
theorem dX4_enter_19 : decode cX4_enter 19 = .ok (.iadd, 1) := by decide +kernel
theorem dX4_enter_20 : decode cX4_enter 20 = .ok (.iaload, 1) := by decide +kernel
theorem dX4_enter_21 : decode cX4_enter 21 = .ok (.ifCond .eq 25, 3) := by decide +kernel
theorem dX4_enter_24 : decode cX4_enter 24 = .ok (.aload_n 0, 1) := by decide +kernel
theorem dX4_enter_25 : decode cX4_enter 25 = .ok (.iload_n 1, 1) := by decide +kernel
theorem dX4_enter_26 : decode cX4_enter 26 = .ok (.bipush 9, 2) := by decide +kernel
theorem dX4_enter_28 : decode cX4_enter 28 = .ok (.imul, 1) := by decide +kernel
theorem dX4_enter_29 : decode cX4_enter 29 = .ok (.iload_n 2, 1) := by decide +kernel
theorem dX4_enter_30 : decode cX4_enter 30 = .ok (.iadd, 1) := by decide +kernel
theorem dX4_enter_31 : decode cX4_enter 31 = .ok (.iload_n 2, 1) := by decide +kernel
theorem dX4_enter_32 : decode cX4_enter 32 = .ok (.invokevirtual 154, 3) := by decide +kernel
theorem dX4_enter_35 : decode cX4_enter 35 = .ok (.aload_n 0, 1) := by decide +kernel
theorem dX4_enter_36 : decode cX4_enter 36 = .ok (.iload_n 1, 1) := by decide +kernel
theorem dX4_enter_37 : decode cX4_enter 37 = .ok (.bipush 9, 2) := by decide +kernel
theorem dX4_enter_39 : decode cX4_enter 39 = .ok (.imul, 1) := by decide +kernel
theorem dX4_enter_40 : decode cX4_enter 40 = .ok (.iload_n 2, 1) := by decide +kernel
theorem dX4_enter_41 : decode cX4_enter 41 = .ok (.iadd, 1) := by decide +kernel
theorem dX4_enter_42 : decode cX4_enter 42 = .ok (.iload_n 2, 1) := by decide +kernel
theorem dX4_enter_43 : decode cX4_enter 43 = .ok (.invokevirtual 157, 3) := by decide +kernel
theorem dX4_enter_46 : decode cX4_enter 46 = .ok (.iinc 2 1, 3) := by decide +kernel
theorem dX4_enter_49 : decode cX4_enter 49 = .ok (.goto (-47), 3) := by decide +kernel
theorem dX4_enter_52 : decode cX4_enter 52 = .ok (.aload_n 0, 1) := by decide +kernel
theorem dX4_enter_53 : decode cX4_enter 53 = .ok (.getfield 51, 3) := by decide +kernel
theorem dX4_enter_56 : decode cX4_enter 56 = .ok (.iload_n 1, 1) := by decide +kernel
theorem dX4_enter_57 : decode cX4_enter 57 = .ok (.aload_n 0, 1) := by decide +kernel
theorem dX4_enter_58 : decode cX4_enter 58 = .ok (.iload_n 1, 1) := by decide +kernel
theorem dX4_enter_59 : decode cX4_enter 59 = .ok (.invokevirtual 160, 3) := by decide +kernel
theorem dX4_enter_62 : decode cX4_enter 62 = .ok (.iastore, 1) := by decide +kernel
theorem dX4_enter_63 : decode cX4_enter 63 = .ok (.aload_n 0, 1) := by decide +kernel
theorem dX4_enter_64 : decode cX4_enter 64 = .ok (.getfield 48, 3) := by decide +kernel
theorem dX4_enter_67 : decode cX4_enter 67 = .ok (.iload_n 1, 1) := by decide +kernel
theorem dX4_enter_68 : decode cX4_enter 68 = .ok (.bipush 9, 2) := by decide +kernel
theorem dX4_enter_70 : decode cX4_enter 70 = .ok (.imul, 1) := by decide +kernel
theorem dX4_enter_71 : decode cX4_enter 71 = .ok (.aload_n 0, 1) := by decide +kernel
theorem dX4_enter_72 : decode cX4_enter 72 = .ok (.getfield 15, 3) := by decide +kernel
theorem dX4_enter_75 : decode cX4_enter 75 = .ok (.iadd, 1) := by decide +kernel
theorem dX4_enter_76 : decode cX4_enter 76 = .ok (.iaload, 1) := by decide +kernel
theorem dX4_enter_77 : decode cX4_enter 77 = .ok (.aload_n 0, 1) := by decide +kernel
theorem dX4_enter_78 : decode cX4_enter 78 = .ok (.getfield 22, 3) := by decide +kernel
theorem dX4_enter_81 : decode cX4_enter 81 = .ok (.getfield 110, 3) := by decide +kernel
theorem dX4_enter_84 : decode cX4_enter 84 = .ok (.iand, 1) := by decide +kernel
theorem dX4_enter_85 : decode cX4_enter 85 = .ok (.ifCond .eq 7, 3) := by decide +kernel
theorem dX4_enter_88 : decode cX4_enter 88 = .ok (.iconst 1, 1) := by decide +kernel
theorem dX4_enter_89 : decode cX4_enter 89 = .ok (.goto 4, 3) := by decide +kernel
theorem dX4_enter_92 : decode cX4_enter 92 = .ok (.iconst 0, 1) := by decide +kernel
theorem dX4_enter_93 : decode cX4_enter 93 = .ok (.ireturn, 1) := by decide +kernel
set_option maxRecDepth 20000 in
theorem ggX4_spreadStaying_X7_holds : GoodIn wsX4_spreadStaying wsX7_holds := goodIn_r _ [10] rfl (by decide +kernel)
set_option maxRecDepth 20000 in
theorem gX4_spreadStaying_X7_holds_n113 : GoodIn wsX4_spreadStaying (wsX7_holds) := ggX4_spreadStaying_X7_holds
set_option maxRecDepth 20000 in
theorem ggX4_spreadStaying_X4_isWayStaying : GoodIn wsX4_spreadStaying wsX4_isWayStaying := goodIn_r _ [15, 6, 16, 7, 8, 9, 10, 17, 18, 14, 19, 20, 21, 22, 23, 24, 25, 1, 3, 26, 27, 28, 29, 30, 31, 32, 33, 34, 35, 36, 37, 38, 39, 40, 41, 42, 43, 44, 45, 46, 47, 48, 49, 50, 51, 52, 53] rfl (by decide +kernel)
set_option maxRecDepth 20000 in
theorem gX4_spreadStaying_X4_isWayStaying : GoodIn wsX4_spreadStaying (wsV RX4 163 RX4 yX4_isWayStaying wsX4_isWayStaying) := goodIn_app (goodIn_of _ (by decide +kernel)) ggX4_spreadStaying_X4_isWayStaying
theorem dX4_spreadStaying_0 : decode cX4_spreadStaying 0 = .ok (.iconst 1, 1) := by decide +kernel
theorem dX4_spreadStaying_1 : decode cX4_spreadStaying 1 = .ok (.istore_n 3, 1) := by decide +kernel
theorem dX4_spreadStaying_2 : decode cX4_spreadStaying 2 = .ok (.iconst 0, 1) := by decide +kernel
theorem dX4_spreadStaying_3 : decode cX4_spreadStaying 3 = .ok (.istore 4, 2) := by decide +kernel
theorem dX4_spreadStaying_5 : decode cX4_spreadStaying 5 = .ok (.iload_n 3, 1) := by decide +kernel
theorem dX4_spreadStaying_6 : decode cX4_spreadStaying 6 = .ok (.ifCond .eq 109, 3) := by decide +kernel
theorem dX4_spreadStaying_9 : decode cX4_spreadStaying 9 = .ok (.iload 4, 2) := by decide +kernel
theorem dX4_spreadStaying_11 : decode cX4_spreadStaying 11 = .ok (.aload_n 0, 1) := by decide +kernel
theorem dX4_spreadStaying_12 : decode cX4_spreadStaying 12 = .ok (.getfield 22, 3) := by decide +kernel
theorem dX4_spreadStaying_15 : decode cX4_spreadStaying 15 = .ok (.getfield 107, 3) := by decide +kernel
theorem dX4_spreadStaying_18 : decode cX4_spreadStaying 18 = .ok (.if_icmp .ge 97, 3) := by decide +kernel
theorem dX4_spreadStaying_21 : decode cX4_spreadStaying 21 = .ok (.iconst 0, 1) := by decide +kernel
theorem dX4_spreadStaying_22 : decode cX4_spreadStaying 22 = .ok (.istore_n 3, 1) := by decide +kernel
theorem dX4_spreadStaying_23 : decode cX4_spreadStaying 23 = .ok (.iconst 0, 1) := by decide +kernel
theorem dX4_spreadStaying_24 : decode cX4_spreadStaying 24 = .ok (.istore 5, 2) := by decide +kernel
theorem dX4_spreadStaying_26 : decode cX4_spreadStaying 26 = .ok (.iload 5, 2) := by decide +kernel
theorem dX4_spreadStaying_28 : decode cX4_spreadStaying 28 = .ok (.aload_n 0, 1) := by decide +kernel
theorem dX4_spreadStaying_29 : decode cX4_spreadStaying 29 = .ok (.getfield 22, 3) := by decide +kernel
theorem dX4_spreadStaying_32 : decode cX4_spreadStaying 32 = .ok (.getfield 78, 3) := by decide +kernel
theorem dX4_spreadStaying_35 : decode cX4_spreadStaying 35 = .ok (.getfield 82, 3) := by decide +kernel
theorem dX4_spreadStaying_38 : decode cX4_spreadStaying 38 = .ok (.if_icmp .ge 71, 3) := by decide +kernel
theorem dX4_spreadStaying_41 : decode cX4_spreadStaying 41 = .ok (.aload_n 0, 1) := by decide +kernel
theorem dX4_spreadStaying_42 : decode cX4_spreadStaying 42 = .ok (.getfield 39, 3) := by decide +kernel
theorem dX4_spreadStaying_45 : decode cX4_spreadStaying 45 = .ok (.iload 5, 2) := by decide +kernel
theorem dX4_spreadStaying_47 : decode cX4_spreadStaying 47 = .ok (.iaload, 1) := by decide +kernel
theorem dX4_spreadStaying_48 : decode cX4_spreadStaying 48 = .ok (.bipush 8, 2) := by decide +kernel
theorem dX4_spreadStaying_50 : decode cX4_spreadStaying 50 = .ok (.if_icmp .ne 53, 3) := by decide +kernel
theorem dX4_spreadStaying_53 : decode cX4_spreadStaying 53 = .ok (.aload_n 0, 1) := by decide +kernel
theorem dX4_spreadStaying_54 : decode cX4_spreadStaying 54 = .ok (.getfield 48, 3) := by decide +kernel
theorem dX4_spreadStaying_57 : decode cX4_spreadStaying 57 = .ok (.iload_n 1, 1) := by decide +kernel
theorem dX4_spreadStaying_58 : decode cX4_spreadStaying 58 = .ok (.iaload, 1) := by decide +kernel
theorem dX4_spreadStaying_59 : decode cX4_spreadStaying 59 = .ok (.aload_n 0, 1) := by decide +kernel
theorem dX4_spreadStaying_60 : decode cX4_spreadStaying 60 = .ok (.getfield 42, 3) := by decide +kernel
theorem dX4_spreadStaying_63 : decode cX4_spreadStaying 63 = .ok (.iload 5, 2) := by decide +kernel
theorem dX4_spreadStaying_65 : decode cX4_spreadStaying 65 = .ok (.iaload, 1) := by decide +kernel
theorem dX4_spreadStaying_66 : decode cX4_spreadStaying 66 = .ok (.invokestatic 113, 3) := by decide +kernel
theorem dX4_spreadStaying_69 : decode cX4_spreadStaying 69 = .ok (.ifCond .ne 34, 3) := by decide +kernel
theorem dX4_spreadStaying_72 : decode cX4_spreadStaying 72 = .ok (.aload_n 0, 1) := by decide +kernel
theorem dX4_spreadStaying_73 : decode cX4_spreadStaying 73 = .ok (.iload 5, 2) := by decide +kernel
theorem dX4_spreadStaying_75 : decode cX4_spreadStaying 75 = .ok (.iload_n 1, 1) := by decide +kernel
theorem dX4_spreadStaying_76 : decode cX4_spreadStaying 76 = .ok (.iload_n 2, 1) := by decide +kernel
theorem dX4_spreadStaying_77 : decode cX4_spreadStaying 77 = .ok (.invokevirtual 163, 3) := by decide +kernel
theorem dX4_spreadStaying_80 : decode cX4_spreadStaying 80 = .ok (.ifCond .eq 23, 3) := by decide +kernel
theorem dX4_spreadStaying_83 : decode cX4_spreadStaying 83 = .ok (.aload_n 0, 1) := by decide +kernel
theorem dX4_spreadStaying_84 : decode cX4_spreadStaying 84 = .ok (.getfield 48, 3) := by decide +kernel
theorem dX4_spreadStaying_87 : decode cX4_spreadStaying 87 = .ok (.iload_n 1, 1) := by decide +kernel
theorem dX4_spreadStaying_88 : decode cX4_spreadStaying 88 = .ok (.dup2, 1) := by decide +kernel
theorem dX4_spreadStaying_89 : decode cX4_spreadStaying 89 = .ok (.iaload, 1) := by decide +kernel
theorem dX4_spreadStaying_90 : decode cX4_spreadStaying 90 = .ok (.iconst 1, 1) := by decide +kernel
theorem dX4_spreadStaying_91 : decode cX4_spreadStaying 91 = .ok (.aload_n 0, 1) := by decide +kernel
theorem dX4_spreadStaying_92 : decode cX4_spreadStaying 92 = .ok (.getfield 42, 3) := by decide +kernel
theorem dX4_spreadStaying_95 : decode cX4_spreadStaying 95 = .ok (.iload 5, 2) := by decide +kernel
theorem dX4_spreadStaying_97 : decode cX4_spreadStaying 97 = .ok (.iaload, 1) := by decide +kernel
theorem dX4_spreadStaying_98 : decode cX4_spreadStaying 98 = .ok (.ishl, 1) := by decide +kernel
theorem dX4_spreadStaying_99 : decode cX4_spreadStaying 99 = .ok (.ior, 1) := by decide +kernel
theorem dX4_spreadStaying_100 : decode cX4_spreadStaying 100 = .ok (.iastore, 1) := by decide +kernel
theorem dX4_spreadStaying_101 : decode cX4_spreadStaying 101 = .ok (.iconst 1, 1) := by decide +kernel
theorem dX4_spreadStaying_102 : decode cX4_spreadStaying 102 = .ok (.istore_n 3, 1) := by decide +kernel
theorem dX4_spreadStaying_103 : decode cX4_spreadStaying 103 = .ok (.iinc 5 1, 3) := by decide +kernel
theorem dX4_spreadStaying_106 : decode cX4_spreadStaying 106 = .ok (.goto (-80), 3) := by decide +kernel
theorem dX4_spreadStaying_109 : decode cX4_spreadStaying 109 = .ok (.iinc 4 1, 3) := by decide +kernel
theorem dX4_spreadStaying_112 : decode cX4_spreadStaying 112 = .ok (.goto (-107), 3) := by decide +kernel
theorem dX4_spreadStaying_115 : decode cX4_spreadStaying 115 = .ok (.return_, 1) := by decide +kernel
set_option maxRecDepth 20000 in
theorem ggX4_spreadReading_X4_isWayReading : GoodIn wsX4_spreadReading wsX4_isWayReading := goodIn_r _ [12, 5, 13, 6, 14, 15, 16, 17, 18, 11, 19, 20, 21, 22, 23, 24, 25, 26, 27, 1, 2, 28, 29, 30, 31, 32, 33, 34, 35, 40, 41, 42, 43, 44, 45, 46, 47, 48, 49, 50, 51, 52, 53, 54, 55, 56, 57, 58, 59] rfl (by decide +kernel)
set_option maxRecDepth 20000 in
theorem gX4_spreadReading_X4_isWayReading : GoodIn wsX4_spreadReading (wsV RX4 166 RX4 yX4_isWayReading wsX4_isWayReading) := goodIn_app (goodIn_of _ (by decide +kernel)) ggX4_spreadReading_X4_isWayReading
set_option maxRecDepth 20000 in
theorem ggX4_spreadReading_X7_holds : GoodIn wsX4_spreadReading wsX7_holds := goodIn_r _ [16] rfl (by decide +kernel)
set_option maxRecDepth 20000 in
theorem gX4_spreadReading_X7_holds_n113 : GoodIn wsX4_spreadReading (wsX7_holds) := ggX4_spreadReading_X7_holds
set_option maxRecDepth 20000 in
theorem ggX4_spreadReading_X4_cellAt : GoodIn wsX4_spreadReading wsX4_cellAt := goodIn_r _ [19] rfl (by decide +kernel)
set_option maxRecDepth 20000 in
theorem gX4_spreadReading_X4_cellAt : GoodIn wsX4_spreadReading (va_wsS RX4 117 yX4_cellAt wsX4_cellAt) := goodIn_app (goodIn_of _ (by decide +kernel)) ggX4_spreadReading_X4_cellAt
set_option maxRecDepth 20000 in
theorem ggX4_spreadReading_X4_costToSkip : GoodIn wsX4_spreadReading wsX4_costToSkip := goodIn_r _ [39, 26, 25, 40, 41, 42, 43, 44, 45, 46, 47, 48, 49, 50, 51, 52, 53] rfl (by decide +kernel)
set_option maxRecDepth 20000 in
theorem gX4_spreadReading_X4_costToSkip : GoodIn wsX4_spreadReading (wsV RX4 134 RX4 yX4_costToSkip wsX4_costToSkip) := goodIn_app (goodIn_of _ (by decide +kernel)) ggX4_spreadReading_X4_costToSkip
set_option maxRecDepth 20000 in
theorem ggX4_spreadReading_X4_isWay : GoodIn wsX4_spreadReading wsX4_isWay := goodIn_r _ [32, 33, 34, 35, 40, 41, 42, 43, 44, 45, 46, 47, 48, 49, 50, 51, 52, 53] rfl (by decide +kernel)
set_option maxRecDepth 20000 in
theorem gX4_spreadReading_X4_isWay : GoodIn wsX4_spreadReading (wsV RX4 169 RX4 yX4_isWay wsX4_isWay) := goodIn_app (goodIn_of _ (by decide +kernel)) ggX4_spreadReading_X4_isWay
theorem dX4_spreadReading_0 : decode cX4_spreadReading 0 = .ok (.iconst 0, 1) := by decide +kernel
theorem dX4_spreadReading_1 : decode cX4_spreadReading 1 = .ok (.istore_n 3, 1) := by decide +kernel
theorem dX4_spreadReading_2 : decode cX4_spreadReading 2 = .ok (.iload_n 3, 1) := by decide +kernel
theorem dX4_spreadReading_3 : decode cX4_spreadReading 3 = .ok (.aload_n 0, 1) := by decide +kernel
theorem dX4_spreadReading_4 : decode cX4_spreadReading 4 = .ok (.getfield 22, 3) := by decide +kernel
theorem dX4_spreadReading_7 : decode cX4_spreadReading 7 = .ok (.getfield 78, 3) := by decide +kernel
theorem dX4_spreadReading_10 : decode cX4_spreadReading 10 = .ok (.getfield 82, 3) := by decide +kernel
theorem dX4_spreadReading_13 : decode cX4_spreadReading 13 = .ok (.if_icmp .ge 49, 3) := by decide +kernel
theorem dX4_spreadReading_16 : decode cX4_spreadReading 16 = .ok (.aload_n 0, 1) := by decide +kernel
theorem dX4_spreadReading_17 : decode cX4_spreadReading 17 = .ok (.getfield 39, 3) := by decide +kernel
theorem dX4_spreadReading_20 : decode cX4_spreadReading 20 = .ok (.iload_n 3, 1) := by decide +kernel
theorem dX4_spreadReading_21 : decode cX4_spreadReading 21 = .ok (.iaload, 1) := by decide +kernel
theorem dX4_spreadReading_22 : decode cX4_spreadReading 22 = .ok (.bipush 8, 2) := by decide +kernel
theorem dX4_spreadReading_24 : decode cX4_spreadReading 24 = .ok (.if_icmp .ne 32, 3) := by decide +kernel
theorem dX4_spreadReading_27 : decode cX4_spreadReading 27 = .ok (.aload_n 0, 1) := by decide +kernel
theorem dX4_spreadReading_28 : decode cX4_spreadReading 28 = .ok (.iload_n 3, 1) := by decide +kernel
theorem dX4_spreadReading_29 : decode cX4_spreadReading 29 = .ok (.iload_n 1, 1) := by decide +kernel
theorem dX4_spreadReading_30 : decode cX4_spreadReading 30 = .ok (.iload_n 2, 1) := by decide +kernel
theorem dX4_spreadReading_31 : decode cX4_spreadReading 31 = .ok (.invokevirtual 166, 3) := by decide +kernel
theorem dX4_spreadReading_34 : decode cX4_spreadReading 34 = .ok (.ifCond .eq 22, 3) := by decide +kernel
theorem dX4_spreadReading_37 : decode cX4_spreadReading 37 = .ok (.aload_n 0, 1) := by decide +kernel
theorem dX4_spreadReading_38 : decode cX4_spreadReading 38 = .ok (.getfield 48, 3) := by decide +kernel
theorem dX4_spreadReading_41 : decode cX4_spreadReading 41 = .ok (.iload_n 1, 1) := by decide +kernel
theorem dX4_spreadReading_42 : decode cX4_spreadReading 42 = .ok (.iconst 1, 1) := by decide +kernel
theorem dX4_spreadReading_43 : decode cX4_spreadReading 43 = .ok (.iadd, 1) := by decide +kernel
theorem dX4_spreadReading_44 : decode cX4_spreadReading 44 = .ok (.dup2, 1) := by decide +kernel
theorem dX4_spreadReading_45 : decode cX4_spreadReading 45 = .ok (.iaload, 1) := by decide +kernel
theorem dX4_spreadReading_46 : decode cX4_spreadReading 46 = .ok (.iconst 1, 1) := by decide +kernel
theorem dX4_spreadReading_47 : decode cX4_spreadReading 47 = .ok (.aload_n 0, 1) := by decide +kernel
theorem dX4_spreadReading_48 : decode cX4_spreadReading 48 = .ok (.getfield 42, 3) := by decide +kernel
theorem dX4_spreadReading_51 : decode cX4_spreadReading 51 = .ok (.iload_n 3, 1) := by decide +kernel
theorem dX4_spreadReading_52 : decode cX4_spreadReading 52 = .ok (.iaload, 1) := by decide +kernel
theorem dX4_spreadReading_53 : decode cX4_spreadReading 53 = .ok (.ishl, 1) := by decide +kernel
theorem dX4_spreadReading_54 : decode cX4_spreadReading 54 = .ok (.ior, 1) := by decide +kernel
theorem dX4_spreadReading_55 : decode cX4_spreadReading 55 = .ok (.iastore, 1) := by decide +kernel
theorem dX4_spreadReading_56 : decode cX4_spreadReading 56 = .ok (.iinc 3 1, 3) := by decide +kernel
theorem dX4_spreadReading_59 : decode cX4_spreadReading 59 = .ok (.goto (-57), 3) := by decide +kernel
theorem dX4_spreadReading_62 : decode cX4_spreadReading 62 = .ok (.iconst 0, 1) := by decide +kernel
theorem dX4_spreadReading_63 : decode cX4_spreadReading 63 = .ok (.istore_n 3, 1) := by decide +kernel
theorem dX4_spreadReading_64 : decode cX4_spreadReading 64 = .ok (.iload_n 3, 1) := by decide +kernel
theorem dX4_spreadReading_65 : decode cX4_spreadReading 65 = .ok (.aload_n 0, 1) := by decide +kernel
theorem dX4_spreadReading_66 : decode cX4_spreadReading 66 = .ok (.getfield 22, 3) := by decide +kernel
theorem dX4_spreadReading_69 : decode cX4_spreadReading 69 = .ok (.getfield 107, 3) := by decide +kernel
theorem dX4_spreadReading_72 : decode cX4_spreadReading 72 = .ok (.if_icmp .ge 60, 3) := by decide +kernel
theorem dX4_spreadReading_75 : decode cX4_spreadReading 75 = .ok (.aload_n 0, 1) := by decide +kernel
theorem dX4_spreadReading_76 : decode cX4_spreadReading 76 = .ok (.getfield 48, 3) := by decide +kernel
theorem dX4_spreadReading_79 : decode cX4_spreadReading 79 = .ok (.iload_n 1, 1) := by decide +kernel
theorem dX4_spreadReading_80 : decode cX4_spreadReading 80 = .ok (.iaload, 1) := by decide +kernel
theorem dX4_spreadReading_81 : decode cX4_spreadReading 81 = .ok (.iload_n 3, 1) := by decide +kernel
theorem dX4_spreadReading_82 : decode cX4_spreadReading 82 = .ok (.invokestatic 113, 3) := by decide +kernel
theorem dX4_spreadReading_85 : decode cX4_spreadReading 85 = .ok (.ifCond .eq 41, 3) := by decide +kernel
theorem dX4_spreadReading_88 : decode cX4_spreadReading 88 = .ok (.aload_n 0, 1) := by decide +kernel
theorem dX4_spreadReading_89 : decode cX4_spreadReading 89 = .ok (.iload_n 2, 1) := by decide +kernel
theorem dX4_spreadReading_90 : decode cX4_spreadReading 90 = .ok (.iload_n 3, 1) := by decide +kernel
theorem dX4_spreadReading_91 : decode cX4_spreadReading 91 = .ok (.invokestatic 117, 3) := by decide +kernel
theorem dX4_spreadReading_94 : decode cX4_spreadReading 94 = .ok (.aload_n 0, 1) := by decide +kernel
theorem dX4_spreadReading_95 : decode cX4_spreadReading 95 = .ok (.iload_n 2, 1) := by decide +kernel
theorem dX4_spreadReading_96 : decode cX4_spreadReading 96 = .ok (.invokevirtual 134, 3) := by decide +kernel
theorem dX4_spreadReading_99 : decode cX4_spreadReading 99 = .ok (.iload_n 2, 1) := by decide +kernel
theorem dX4_spreadReading_100 : decode cX4_spreadReading 100 = .ok (.iconst 1, 1) := by decide +kernel
theorem dX4_spreadReading_101 : decode cX4_spreadReading 101 = .ok (.iadd, 1) := by decide +kernel
theorem dX4_spreadReading_102 : decode cX4_spreadReading 102 = .ok (.iload_n 3, 1) := by decide +kernel
theorem dX4_spreadReading_103 : decode cX4_spreadReading 103 = .ok (.invokestatic 117, 3) := by decide +kernel
theorem dX4_spreadReading_106 : decode cX4_spreadReading 106 = .ok (.invokevirtual 169, 3) := by decide +kernel
theorem dX4_spreadReading_109 : decode cX4_spreadReading 109 = .ok (.ifCond .eq 17, 3) := by decide +kernel
theorem dX4_spreadReading_112 : decode cX4_spreadReading 112 = .ok (.aload_n 0, 1) := by decide +kernel
theorem dX4_spreadReading_113 : decode cX4_spreadReading 113 = .ok (.getfield 48, 3) := by decide +kernel
theorem dX4_spreadReading_116 : decode cX4_spreadReading 116 = .ok (.iload_n 1, 1) := by decide +kernel
theorem dX4_spreadReading_117 : decode cX4_spreadReading 117 = .ok (.iconst 1, 1) := by decide +kernel
theorem dX4_spreadReading_118 : decode cX4_spreadReading 118 = .ok (.iadd, 1) := by decide +kernel
theorem dX4_spreadReading_119 : decode cX4_spreadReading 119 = .ok (.dup2, 1) := by decide +kernel
theorem dX4_spreadReading_120 : decode cX4_spreadReading 120 = .ok (.iaload, 1) := by decide +kernel
theorem dX4_spreadReading_121 : decode cX4_spreadReading 121 = .ok (.iconst 1, 1) := by decide +kernel
theorem dX4_spreadReading_122 : decode cX4_spreadReading 122 = .ok (.iload_n 3, 1) := by decide +kernel
theorem dX4_spreadReading_123 : decode cX4_spreadReading 123 = .ok (.ishl, 1) := by decide +kernel
theorem dX4_spreadReading_124 : decode cX4_spreadReading 124 = .ok (.ior, 1) := by decide +kernel
theorem dX4_spreadReading_125 : decode cX4_spreadReading 125 = .ok (.iastore, 1) := by decide +kernel
theorem dX4_spreadReading_126 : decode cX4_spreadReading 126 = .ok (.iinc 3 1, 3) := by decide +kernel
theorem dX4_spreadReading_129 : decode cX4_spreadReading 129 = .ok (.goto (-65), 3) := by decide +kernel
theorem dX4_spreadReading_132 : decode cX4_spreadReading 132 = .ok (.return_, 1) := by decide +kernel
set_option maxRecDepth 20000 in
theorem ggX4_lettersFrom_X7_holds : GoodIn wsX4_lettersFrom wsX7_holds := goodIn_r _ [9] rfl (by decide +kernel)
set_option maxRecDepth 20000 in
theorem gX4_lettersFrom_X7_holds_n113 : GoodIn wsX4_lettersFrom (wsX7_holds) := ggX4_lettersFrom_X7_holds
set_option maxRecDepth 20000 in
theorem ggX4_lettersFrom_X4_isWayStaying : GoodIn wsX4_lettersFrom wsX4_isWayStaying := goodIn_r _ [14, 2, 15, 16, 7, 8, 9, 17, 18, 13, 19, 20, 21, 22, 23, 24, 25, 3, 4, 26, 27, 28, 29, 30, 31, 32, 33, 43, 44, 45, 46, 47, 48, 49, 50, 51, 52, 53, 54, 55, 56, 57, 58, 59, 60, 61, 62] rfl (by decide +kernel)
set_option maxRecDepth 20000 in
theorem gX4_lettersFrom_X4_isWayStaying : GoodIn wsX4_lettersFrom (wsV RX4 163 RX4 yX4_isWayStaying wsX4_isWayStaying) := goodIn_app (goodIn_of _ (by decide +kernel)) ggX4_lettersFrom_X4_isWayStaying
set_option maxRecDepth 20000 in
theorem ggX4_lettersFrom_X4_isWayReading : GoodIn wsX4_lettersFrom wsX4_isWayReading := goodIn_r _ [37, 2, 15, 16, 7, 8, 9, 17, 18, 13, 19, 38, 39, 40, 41, 25, 1, 24, 42, 3, 4, 26, 27, 28, 29, 30, 31, 32, 33, 43, 44, 45, 46, 47, 48, 49, 50, 51, 52, 53, 54, 55, 56, 57, 58, 59, 60, 61, 62] rfl (by decide +kernel)
set_option maxRecDepth 20000 in
theorem gX4_lettersFrom_X4_isWayReading : GoodIn wsX4_lettersFrom (wsV RX4 166 RX4 yX4_isWayReading wsX4_isWayReading) := goodIn_app (goodIn_of _ (by decide +kernel)) ggX4_lettersFrom_X4_isWayReading
theorem dX4_lettersFrom_0 : decode cX4_lettersFrom 0 = .ok (.iconst 0, 1) := by decide +kernel
theorem dX4_lettersFrom_1 : decode cX4_lettersFrom 1 = .ok (.istore_n 2, 1) := by decide +kernel
theorem dX4_lettersFrom_2 : decode cX4_lettersFrom 2 = .ok (.iconst 0, 1) := by decide +kernel
theorem dX4_lettersFrom_3 : decode cX4_lettersFrom 3 = .ok (.istore_n 3, 1) := by decide +kernel
theorem dX4_lettersFrom_4 : decode cX4_lettersFrom 4 = .ok (.iload_n 3, 1) := by decide +kernel
theorem dX4_lettersFrom_5 : decode cX4_lettersFrom 5 = .ok (.aload_n 0, 1) := by decide +kernel
theorem dX4_lettersFrom_6 : decode cX4_lettersFrom 6 = .ok (.getfield 15, 3) := by decide +kernel
theorem dX4_lettersFrom_9 : decode cX4_lettersFrom 9 = .ok (.if_icmp .gt 113, 3) := by decide +kernel
theorem dX4_lettersFrom_12 : decode cX4_lettersFrom 12 = .ok (.iload_n 1, 1) := by decide +kernel
theorem dX4_lettersFrom_13 : decode cX4_lettersFrom 13 = .ok (.bipush 9, 2) := by decide +kernel
theorem dX4_lettersFrom_15 : decode cX4_lettersFrom 15 = .ok (.imul, 1) := by decide +kernel
theorem dX4_lettersFrom_16 : decode cX4_lettersFrom 16 = .ok (.iload_n 3, 1) := by decide +kernel
theorem dX4_lettersFrom_17 : decode cX4_lettersFrom 17 = .ok (.iadd, 1) := by decide +kernel
theorem dX4_lettersFrom_18 : decode cX4_lettersFrom 18 = .ok (.istore 4, 2) := by decide +kernel
theorem dX4_lettersFrom_20 : decode cX4_lettersFrom 20 = .ok (.aload_n 0, 1) := by decide +kernel
theorem dX4_lettersFrom_21 : decode cX4_lettersFrom 21 = .ok (.getfield 48, 3) := by decide +kernel
theorem dX4_lettersFrom_24 : decode cX4_lettersFrom 24 = .ok (.iload 4, 2) := by decide +kernel
theorem dX4_lettersFrom_26 : decode cX4_lettersFrom 26 = .ok (.iaload, 1) := by decide +kernel
theorem dX4_lettersFrom_27 : decode cX4_lettersFrom 27 = .ok (.ifCond .eq 89, 3) := by decide +kernel
theorem dX4_lettersFrom_30 : decode cX4_lettersFrom 30 = .ok (.iconst 0, 1) := by decide +kernel
theorem dX4_lettersFrom_31 : decode cX4_lettersFrom 31 = .ok (.istore 5, 2) := by decide +kernel
theorem dX4_lettersFrom_33 : decode cX4_lettersFrom 33 = .ok (.iload 5, 2) := by decide +kernel
theorem dX4_lettersFrom_35 : decode cX4_lettersFrom 35 = .ok (.aload_n 0, 1) := by decide +kernel
theorem dX4_lettersFrom_36 : decode cX4_lettersFrom 36 = .ok (.getfield 22, 3) := by decide +kernel
theorem dX4_lettersFrom_39 : decode cX4_lettersFrom 39 = .ok (.getfield 78, 3) := by decide +kernel
theorem dX4_lettersFrom_42 : decode cX4_lettersFrom 42 = .ok (.getfield 82, 3) := by decide +kernel
theorem dX4_lettersFrom_45 : decode cX4_lettersFrom 45 = .ok (.if_icmp .ge 71, 3) := by decide +kernel
theorem dX4_lettersFrom_48 : decode cX4_lettersFrom 48 = .ok (.aload_n 0, 1) := by decide +kernel
theorem dX4_lettersFrom_49 : decode cX4_lettersFrom 49 = .ok (.getfield 39, 3) := by decide +kernel
theorem dX4_lettersFrom_52 : decode cX4_lettersFrom 52 = .ok (.iload 5, 2) := by decide +kernel
theorem dX4_lettersFrom_54 : decode cX4_lettersFrom 54 = .ok (.iaload, 1) := by decide +kernel
theorem dX4_lettersFrom_55 : decode cX4_lettersFrom 55 = .ok (.bipush 8, 2) := by decide +kernel
theorem dX4_lettersFrom_57 : decode cX4_lettersFrom 57 = .ok (.if_icmp .eq 53, 3) := by decide +kernel
theorem dX4_lettersFrom_60 : decode cX4_lettersFrom 60 = .ok (.iload_n 2, 1) := by decide +kernel
theorem dX4_lettersFrom_61 : decode cX4_lettersFrom 61 = .ok (.aload_n 0, 1) := by decide +kernel
theorem dX4_lettersFrom_62 : decode cX4_lettersFrom 62 = .ok (.getfield 39, 3) := by decide +kernel
theorem dX4_lettersFrom_65 : decode cX4_lettersFrom 65 = .ok (.iload 5, 2) := by decide +kernel
theorem dX4_lettersFrom_67 : decode cX4_lettersFrom 67 = .ok (.iaload, 1) := by decide +kernel
theorem dX4_lettersFrom_68 : decode cX4_lettersFrom 68 = .ok (.invokestatic 113, 3) := by decide +kernel
theorem dX4_lettersFrom_71 : decode cX4_lettersFrom 71 = .ok (.ifCond .ne 39, 3) := by decide +kernel
theorem dX4_lettersFrom_74 : decode cX4_lettersFrom 74 = .ok (.aload_n 0, 1) := by decide +kernel
theorem dX4_lettersFrom_75 : decode cX4_lettersFrom 75 = .ok (.iload 5, 2) := by decide +kernel
theorem dX4_lettersFrom_77 : decode cX4_lettersFrom 77 = .ok (.iload 4, 2) := by decide +kernel
theorem dX4_lettersFrom_79 : decode cX4_lettersFrom 79 = .ok (.iload_n 3, 1) := by decide +kernel
theorem dX4_lettersFrom_80 : decode cX4_lettersFrom 80 = .ok (.invokevirtual 163, 3) := by decide +kernel
theorem dX4_lettersFrom_83 : decode cX4_lettersFrom 83 = .ok (.ifCond .ne 15, 3) := by decide +kernel
theorem dX4_lettersFrom_86 : decode cX4_lettersFrom 86 = .ok (.aload_n 0, 1) := by decide +kernel
theorem dX4_lettersFrom_87 : decode cX4_lettersFrom 87 = .ok (.iload 5, 2) := by decide +kernel
theorem dX4_lettersFrom_89 : decode cX4_lettersFrom 89 = .ok (.iload 4, 2) := by decide +kernel
theorem dX4_lettersFrom_91 : decode cX4_lettersFrom 91 = .ok (.iload_n 3, 1) := by decide +kernel
theorem dX4_lettersFrom_92 : decode cX4_lettersFrom 92 = .ok (.invokevirtual 166, 3) := by decide +kernel
theorem dX4_lettersFrom_95 : decode cX4_lettersFrom 95 = .ok (.ifCond .eq 15, 3) := by decide +kernel
theorem dX4_lettersFrom_98 : decode cX4_lettersFrom 98 = .ok (.iload_n 2, 1) := by decide +kernel
theorem dX4_lettersFrom_99 : decode cX4_lettersFrom 99 = .ok (.iconst 1, 1) := by decide +kernel
theorem dX4_lettersFrom_100 : decode cX4_lettersFrom 100 = .ok (.aload_n 0, 1) := by decide +kernel
theorem dX4_lettersFrom_101 : decode cX4_lettersFrom 101 = .ok (.getfield 39, 3) := by decide +kernel
theorem dX4_lettersFrom_104 : decode cX4_lettersFrom 104 = .ok (.iload 5, 2) := by decide +kernel
theorem dX4_lettersFrom_106 : decode cX4_lettersFrom 106 = .ok (.iaload, 1) := by decide +kernel
theorem dX4_lettersFrom_107 : decode cX4_lettersFrom 107 = .ok (.ishl, 1) := by decide +kernel
theorem dX4_lettersFrom_108 : decode cX4_lettersFrom 108 = .ok (.ior, 1) := by decide +kernel
theorem dX4_lettersFrom_109 : decode cX4_lettersFrom 109 = .ok (.istore_n 2, 1) := by decide +kernel
theorem dX4_lettersFrom_110 : decode cX4_lettersFrom 110 = .ok (.iinc 5 1, 3) := by decide +kernel
theorem dX4_lettersFrom_113 : decode cX4_lettersFrom 113 = .ok (.goto (-80), 3) := by decide +kernel
theorem dX4_lettersFrom_116 : decode cX4_lettersFrom 116 = .ok (.iinc 3 1, 3) := by decide +kernel
theorem dX4_lettersFrom_119 : decode cX4_lettersFrom 119 = .ok (.goto (-115), 3) := by decide +kernel
theorem dX4_lettersFrom_122 : decode cX4_lettersFrom 122 = .ok (.iload_n 2, 1) := by decide +kernel
theorem dX4_lettersFrom_123 : decode cX4_lettersFrom 123 = .ok (.ireturn, 1) := by decide +kernel
set_option maxRecDepth 20000 in
theorem ggX4_step_X4_clearSets : GoodIn wsX4_step wsX4_clearSets := goodIn_r _ [12, 2, 47, 48, 49, 50, 51, 52, 53, 54, 55, 56, 57, 58, 59, 60] rfl (by decide +kernel)
set_option maxRecDepth 20000 in
theorem gX4_step_X4_clearSets : GoodIn wsX4_step (wsV RX4 140 RX4 yX4_clearSets wsX4_clearSets) := goodIn_app (goodIn_of _ (by decide +kernel)) ggX4_step_X4_clearSets
set_option maxRecDepth 20000 in
theorem ggX4_step_X4_isWayStaying : GoodIn wsX4_step wsX4_isWayStaying := goodIn_r _ [16, 2, 17, 7, 18, 19, 20, 21, 22, 11, 23, 24, 25, 26, 27, 28, 29, 3, 4, 30, 31, 32, 33, 34, 35, 36, 37, 47, 48, 49, 50, 51, 52, 53, 54, 55, 56, 57, 58, 59, 60, 61, 62, 63, 64, 65, 66] rfl (by decide +kernel)
set_option maxRecDepth 20000 in
theorem gX4_step_X4_isWayStaying : GoodIn wsX4_step (wsV RX4 163 RX4 yX4_isWayStaying wsX4_isWayStaying) := goodIn_app (goodIn_of _ (by decide +kernel)) ggX4_step_X4_isWayStaying
set_option maxRecDepth 20000 in
theorem ggX4_step_X4_isWayReading : GoodIn wsX4_step wsX4_isWayReading := goodIn_r _ [41, 2, 17, 7, 18, 19, 20, 21, 22, 11, 23, 42, 43, 44, 45, 29, 1, 28, 46, 3, 4, 30, 31, 32, 33, 34, 35, 36, 37, 47, 48, 49, 50, 51, 52, 53, 54, 55, 56, 57, 58, 59, 60, 61, 62, 63, 64, 65, 66] rfl (by decide +kernel)
set_option maxRecDepth 20000 in
theorem gX4_step_X4_isWayReading : GoodIn wsX4_step (wsV RX4 166 RX4 yX4_isWayReading wsX4_isWayReading) := goodIn_app (goodIn_of _ (by decide +kernel)) ggX4_step_X4_isWayReading
theorem dX4_step_0 : decode cX4_step 0 = .ok (.aload_n 0, 1) := by decide +kernel
theorem dX4_step_1 : decode cX4_step 1 = .ok (.iload_n 1, 1) := by decide +kernel
theorem dX4_step_2 : decode cX4_step 2 = .ok (.iconst 1, 1) := by decide +kernel
theorem dX4_step_3 : decode cX4_step 3 = .ok (.iadd, 1) := by decide +kernel
theorem dX4_step_4 : decode cX4_step 4 = .ok (.invokevirtual 140, 3) := by decide +kernel
theorem dX4_step_7 : decode cX4_step 7 = .ok (.iconst 0, 1) := by decide +kernel
theorem dX4_step_8 : decode cX4_step 8 = .ok (.istore_n 3, 1) := by decide +kernel
theorem dX4_step_9 : decode cX4_step 9 = .ok (.iload_n 3, 1) := by decide +kernel
theorem dX4_step_10 : decode cX4_step 10 = .ok (.aload_n 0, 1) := by decide +kernel
theorem dX4_step_11 : decode cX4_step 11 = .ok (.getfield 15, 3) := by decide +kernel
theorem dX4_step_14 : decode cX4_step 14 = .ok (.if_icmp .gt 143, 3) := by decide +kernel
theorem dX4_step_17 : decode cX4_step 17 = .ok (.iload_n 1, 1) := by decide +kernel
theorem dX4_step_18 : decode cX4_step 18 = .ok (.bipush 9, 2) := by decide +kernel
theorem dX4_step_20 : decode cX4_step 20 = .ok (.imul, 1) := by decide +kernel
theorem dX4_step_21 : decode cX4_step 21 = .ok (.iload_n 3, 1) := by decide +kernel
theorem dX4_step_22 : decode cX4_step 22 = .ok (.iadd, 1) := by decide +kernel
theorem dX4_step_23 : decode cX4_step 23 = .ok (.istore 4, 2) := by decide +kernel
theorem dX4_step_25 : decode cX4_step 25 = .ok (.aload_n 0, 1) := by decide +kernel
theorem dX4_step_26 : decode cX4_step 26 = .ok (.getfield 48, 3) := by decide +kernel
theorem dX4_step_29 : decode cX4_step 29 = .ok (.iload 4, 2) := by decide +kernel
theorem dX4_step_31 : decode cX4_step 31 = .ok (.iaload, 1) := by decide +kernel
theorem dX4_step_32 : decode cX4_step 32 = .ok (.ifCond .eq 119, 3) := by decide +kernel
theorem dX4_step_35 : decode cX4_step 35 = .ok (.iconst 0, 1) := by decide +kernel
theorem dX4_step_36 : decode cX4_step 36 = .ok (.istore 5, 2) := by decide +kernel
theorem dX4_step_38 : decode cX4_step 38 = .ok (.iload 5, 2) := by decide +kernel
theorem dX4_step_40 : decode cX4_step 40 = .ok (.aload_n 0, 1) := by decide +kernel
theorem dX4_step_41 : decode cX4_step 41 = .ok (.getfield 22, 3) := by decide +kernel
theorem dX4_step_44 : decode cX4_step 44 = .ok (.getfield 78, 3) := by decide +kernel
theorem dX4_step_47 : decode cX4_step 47 = .ok (.getfield 82, 3) := by decide +kernel
theorem dX4_step_50 : decode cX4_step 50 = .ok (.if_icmp .ge 101, 3) := by decide +kernel
theorem dX4_step_53 : decode cX4_step 53 = .ok (.aload_n 0, 1) := by decide +kernel
theorem dX4_step_54 : decode cX4_step 54 = .ok (.getfield 39, 3) := by decide +kernel
theorem dX4_step_57 : decode cX4_step 57 = .ok (.iload 5, 2) := by decide +kernel
theorem dX4_step_59 : decode cX4_step 59 = .ok (.iaload, 1) := by decide +kernel
theorem dX4_step_60 : decode cX4_step 60 = .ok (.iload_n 2, 1) := by decide +kernel
theorem dX4_step_61 : decode cX4_step 61 = .ok (.if_icmp .ne 37, 3) := by decide +kernel
theorem dX4_step_64 : decode cX4_step 64 = .ok (.aload_n 0, 1) := by decide +kernel
theorem dX4_step_65 : decode cX4_step 65 = .ok (.iload 5, 2) := by decide +kernel
theorem dX4_step_67 : decode cX4_step 67 = .ok (.iload 4, 2) := by decide +kernel
theorem dX4_step_69 : decode cX4_step 69 = .ok (.iload_n 3, 1) := by decide +kernel
theorem dX4_step_70 : decode cX4_step 70 = .ok (.invokevirtual 163, 3) := by decide +kernel
theorem dX4_step_73 : decode cX4_step 73 = .ok (.ifCond .eq 25, 3) := by decide +kernel
theorem dX4_step_76 : decode cX4_step 76 = .ok (.aload_n 0, 1) := by decide +kernel
theorem dX4_step_77 : decode cX4_step 77 = .ok (.getfield 48, 3) := by decide +kernel
theorem dX4_step_80 : decode cX4_step 80 = .ok (.iload 4, 2) := by decide +kernel
theorem dX4_step_82 : decode cX4_step 82 = .ok (.bipush 9, 2) := by decide +kernel
theorem dX4_step_84 : decode cX4_step 84 = .ok (.iadd, 1) := by decide +kernel
theorem dX4_step_85 : decode cX4_step 85 = .ok (.dup2, 1) := by decide +kernel
theorem dX4_step_86 : decode cX4_step 86 = .ok (.iaload, 1) := by decide +kernel
theorem dX4_step_87 : decode cX4_step 87 = .ok (.iconst 1, 1) := by decide +kernel
theorem dX4_step_88 : decode cX4_step 88 = .ok (.aload_n 0, 1) := by decide +kernel
theorem dX4_step_89 : decode cX4_step 89 = .ok (.getfield 42, 3) := by decide +kernel
theorem dX4_step_92 : decode cX4_step 92 = .ok (.iload 5, 2) := by decide +kernel
theorem dX4_step_94 : decode cX4_step 94 = .ok (.iaload, 1) := by decide +kernel
theorem dX4_step_95 : decode cX4_step 95 = .ok (.ishl, 1) := by decide +kernel
theorem dX4_step_96 : decode cX4_step 96 = .ok (.ior, 1) := by decide +kernel
theorem dX4_step_97 : decode cX4_step 97 = .ok (.iastore, 1) := by decide +kernel
theorem dX4_step_98 : decode cX4_step 98 = .ok (.aload_n 0, 1) := by decide +kernel
theorem dX4_step_99 : decode cX4_step 99 = .ok (.getfield 39, 3) := by decide +kernel
theorem dX4_step_102 : decode cX4_step 102 = .ok (.iload 5, 2) := by decide +kernel
theorem dX4_step_104 : decode cX4_step 104 = .ok (.iaload, 1) := by decide +kernel
theorem dX4_step_105 : decode cX4_step 105 = .ok (.iload_n 2, 1) := by decide +kernel
theorem dX4_step_106 : decode cX4_step 106 = .ok (.if_icmp .ne 39, 3) := by decide +kernel
theorem dX4_step_109 : decode cX4_step 109 = .ok (.aload_n 0, 1) := by decide +kernel
theorem dX4_step_110 : decode cX4_step 110 = .ok (.iload 5, 2) := by decide +kernel
theorem dX4_step_112 : decode cX4_step 112 = .ok (.iload 4, 2) := by decide +kernel
theorem dX4_step_114 : decode cX4_step 114 = .ok (.iload_n 3, 1) := by decide +kernel
theorem dX4_step_115 : decode cX4_step 115 = .ok (.invokevirtual 166, 3) := by decide +kernel
theorem dX4_step_118 : decode cX4_step 118 = .ok (.ifCond .eq 27, 3) := by decide +kernel
theorem dX4_step_121 : decode cX4_step 121 = .ok (.aload_n 0, 1) := by decide +kernel
theorem dX4_step_122 : decode cX4_step 122 = .ok (.getfield 48, 3) := by decide +kernel
theorem dX4_step_125 : decode cX4_step 125 = .ok (.iload 4, 2) := by decide +kernel
theorem dX4_step_127 : decode cX4_step 127 = .ok (.bipush 9, 2) := by decide +kernel
theorem dX4_step_129 : decode cX4_step 129 = .ok (.iadd, 1) := by decide +kernel
theorem dX4_step_130 : decode cX4_step 130 = .ok (.iconst 1, 1) := by decide +kernel
theorem dX4_step_131 : decode cX4_step 131 = .ok (.iadd, 1) := by decide +kernel
theorem dX4_step_132 : decode cX4_step 132 = .ok (.dup2, 1) := by decide +kernel
theorem dX4_step_133 : decode cX4_step 133 = .ok (.iaload, 1) := by decide +kernel
theorem dX4_step_134 : decode cX4_step 134 = .ok (.iconst 1, 1) := by decide +kernel
theorem dX4_step_135 : decode cX4_step 135 = .ok (.aload_n 0, 1) := by decide +kernel
theorem dX4_step_136 : decode cX4_step 136 = .ok (.getfield 42, 3) := by decide +kernel
theorem dX4_step_139 : decode cX4_step 139 = .ok (.iload 5, 2) := by decide +kernel
theorem dX4_step_141 : decode cX4_step 141 = .ok (.iaload, 1) := by decide +kernel
theorem dX4_step_142 : decode cX4_step 142 = .ok (.ishl, 1) := by decide +kernel
theorem dX4_step_143 : decode cX4_step 143 = .ok (.ior, 1) := by decide +kernel
theorem dX4_step_144 : decode cX4_step 144 = .ok (.iastore, 1) := by decide +kernel
theorem dX4_step_145 : decode cX4_step 145 = .ok (.iinc 5 1, 3) := by decide +kernel
theorem dX4_step_148 : decode cX4_step 148 = .ok (.goto (-110), 3) := by decide +kernel
theorem dX4_step_151 : decode cX4_step 151 = .ok (.iinc 3 1, 3) := by decide +kernel
theorem dX4_step_154 : decode cX4_step 154 = .ok (.goto (-145), 3) := by decide +kernel
theorem dX4_step_157 : decode cX4_step 157 = .ok (.return_, 1) := by decide +kernel
set_option maxRecDepth 20000 in
theorem ggX4_isWayStaying_X7_holds : GoodIn wsX4_isWayStaying wsX7_holds := goodIn_r _ [6] rfl (by decide +kernel)
set_option maxRecDepth 20000 in
theorem gX4_isWayStaying_X7_holds_n113 : GoodIn wsX4_isWayStaying (wsX7_holds) := ggX4_isWayStaying_X7_holds
set_option maxRecDepth 20000 in
theorem ggX4_isWayStaying_X4_cellAt : GoodIn wsX4_isWayStaying wsX4_cellAt := goodIn_r _ [10] rfl (by decide +kernel)
set_option maxRecDepth 20000 in
theorem gX4_isWayStaying_X4_cellAt : GoodIn wsX4_isWayStaying (va_wsS RX4 117 yX4_cellAt wsX4_cellAt) := goodIn_app (goodIn_of _ (by decide +kernel)) ggX4_isWayStaying_X4_cellAt
set_option maxRecDepth 20000 in
theorem ggX4_isWayStaying_X4_costToStay : GoodIn wsX4_isWayStaying wsX4_costToStay := goodIn_r _ [14, 15, 16, 17, 18, 19, 27, 28, 29, 30, 31, 32, 33, 34, 35, 36, 37, 38, 39, 40, 41, 42, 43, 44, 45, 46] rfl (by decide +kernel)
set_option maxRecDepth 20000 in
theorem gX4_isWayStaying_X4_costToStay : GoodIn wsX4_isWayStaying (wsV RX4 137 RX4 yX4_costToStay wsX4_costToStay) := goodIn_app (goodIn_of _ (by decide +kernel)) ggX4_isWayStaying_X4_costToStay
set_option maxRecDepth 20000 in
theorem ggX4_isWayStaying_X4_isWay : GoodIn wsX4_isWayStaying wsX4_isWay := goodIn_r _ [23, 24, 25, 26, 27, 28, 29, 30, 31, 32, 33, 34, 35, 36, 37, 38, 39, 40] rfl (by decide +kernel)
set_option maxRecDepth 20000 in
theorem gX4_isWayStaying_X4_isWay : GoodIn wsX4_isWayStaying (wsV RX4 169 RX4 yX4_isWay wsX4_isWay) := goodIn_app (goodIn_of _ (by decide +kernel)) ggX4_isWayStaying_X4_isWay
theorem dX4_isWayStaying_0 : decode cX4_isWayStaying 0 = .ok (.aload_n 0, 1) := by decide +kernel
theorem dX4_isWayStaying_1 : decode cX4_isWayStaying 1 = .ok (.getfield 48, 3) := by decide +kernel
theorem dX4_isWayStaying_4 : decode cX4_isWayStaying 4 = .ok (.iload_n 2, 1) := by decide +kernel
theorem dX4_isWayStaying_5 : decode cX4_isWayStaying 5 = .ok (.iaload, 1) := by decide +kernel
theorem dX4_isWayStaying_6 : decode cX4_isWayStaying 6 = .ok (.aload_n 0, 1) := by decide +kernel
theorem dX4_isWayStaying_7 : decode cX4_isWayStaying 7 = .ok (.getfield 33, 3) := by decide +kernel
theorem dX4_isWayStaying_10 : decode cX4_isWayStaying 10 = .ok (.iload_n 1, 1) := by decide +kernel
theorem dX4_isWayStaying_11 : decode cX4_isWayStaying 11 = .ok (.iaload, 1) := by decide +kernel
theorem dX4_isWayStaying_12 : decode cX4_isWayStaying 12 = .ok (.invokestatic 113, 3) := by decide +kernel
theorem dX4_isWayStaying_15 : decode cX4_isWayStaying 15 = .ok (.ifCond .eq 39, 3) := by decide +kernel
theorem dX4_isWayStaying_18 : decode cX4_isWayStaying 18 = .ok (.aload_n 0, 1) := by decide +kernel
theorem dX4_isWayStaying_19 : decode cX4_isWayStaying 19 = .ok (.iload_n 3, 1) := by decide +kernel
theorem dX4_isWayStaying_20 : decode cX4_isWayStaying 20 = .ok (.aload_n 0, 1) := by decide +kernel
theorem dX4_isWayStaying_21 : decode cX4_isWayStaying 21 = .ok (.getfield 33, 3) := by decide +kernel
theorem dX4_isWayStaying_24 : decode cX4_isWayStaying 24 = .ok (.iload_n 1, 1) := by decide +kernel
theorem dX4_isWayStaying_25 : decode cX4_isWayStaying 25 = .ok (.iaload, 1) := by decide +kernel
theorem dX4_isWayStaying_26 : decode cX4_isWayStaying 26 = .ok (.invokestatic 117, 3) := by decide +kernel
theorem dX4_isWayStaying_29 : decode cX4_isWayStaying 29 = .ok (.aload_n 0, 1) := by decide +kernel
theorem dX4_isWayStaying_30 : decode cX4_isWayStaying 30 = .ok (.iload_n 1, 1) := by decide +kernel
theorem dX4_isWayStaying_31 : decode cX4_isWayStaying 31 = .ok (.invokevirtual 137, 3) := by decide +kernel
theorem dX4_isWayStaying_34 : decode cX4_isWayStaying 34 = .ok (.iload_n 3, 1) := by decide +kernel
theorem dX4_isWayStaying_35 : decode cX4_isWayStaying 35 = .ok (.aload_n 0, 1) := by decide +kernel
theorem dX4_isWayStaying_36 : decode cX4_isWayStaying 36 = .ok (.getfield 42, 3) := by decide +kernel
theorem dX4_isWayStaying_39 : decode cX4_isWayStaying 39 = .ok (.iload_n 1, 1) := by decide +kernel
theorem dX4_isWayStaying_40 : decode cX4_isWayStaying 40 = .ok (.iaload, 1) := by decide +kernel
theorem dX4_isWayStaying_41 : decode cX4_isWayStaying 41 = .ok (.invokestatic 117, 3) := by decide +kernel
theorem dX4_isWayStaying_44 : decode cX4_isWayStaying 44 = .ok (.invokevirtual 169, 3) := by decide +kernel
theorem dX4_isWayStaying_47 : decode cX4_isWayStaying 47 = .ok (.ifCond .eq 7, 3) := by decide +kernel
theorem dX4_isWayStaying_50 : decode cX4_isWayStaying 50 = .ok (.iconst 1, 1) := by decide +kernel
theorem dX4_isWayStaying_51 : decode cX4_isWayStaying 51 = .ok (.goto 4, 3) := by decide +kernel
theorem dX4_isWayStaying_54 : decode cX4_isWayStaying 54 = .ok (.iconst 0, 1) := by decide +kernel
theorem dX4_isWayStaying_55 : decode cX4_isWayStaying 55 = .ok (.ireturn, 1) := by decide +kernel
set_option maxRecDepth 20000 in
theorem ggX4_isWayReading_X7_holds : GoodIn wsX4_isWayReading wsX7_holds := goodIn_r _ [6] rfl (by decide +kernel)
set_option maxRecDepth 20000 in
theorem gX4_isWayReading_X7_holds_n113 : GoodIn wsX4_isWayReading (wsX7_holds) := ggX4_isWayReading_X7_holds
set_option maxRecDepth 20000 in
theorem ggX4_isWayReading_X4_cellAt : GoodIn wsX4_isWayReading wsX4_cellAt := goodIn_r _ [10] rfl (by decide +kernel)
set_option maxRecDepth 20000 in
theorem gX4_isWayReading_X4_cellAt : GoodIn wsX4_isWayReading (va_wsS RX4 117 yX4_cellAt wsX4_cellAt) := goodIn_app (goodIn_of _ (by decide +kernel)) ggX4_isWayReading_X4_cellAt
set_option maxRecDepth 20000 in
theorem ggX4_isWayReading_X4_costToRead : GoodIn wsX4_isWayReading wsX4_costToRead := goodIn_r _ [14, 15, 16, 17, 18, 19, 20, 21, 29, 30, 31, 32, 33, 34, 35, 36, 37, 38, 39, 40, 41, 42, 43, 44, 45, 46, 47, 48] rfl (by decide +kernel)
set_option maxRecDepth 20000 in
theorem gX4_isWayReading_X4_costToRead : GoodIn wsX4_isWayReading (wsV RX4 127 RX4 yX4_costToRead wsX4_costToRead) := goodIn_app (goodIn_of _ (by decide +kernel)) ggX4_isWayReading_X4_costToRead
set_option maxRecDepth 20000 in
theorem ggX4_isWayReading_X4_isWay : GoodIn wsX4_isWayReading wsX4_isWay := goodIn_r _ [25, 26, 27, 28, 29, 30, 31, 32, 33, 34, 35, 36, 37, 38, 39, 40, 41, 42] rfl (by decide +kernel)
set_option maxRecDepth 20000 in
theorem gX4_isWayReading_X4_isWay : GoodIn wsX4_isWayReading (wsV RX4 169 RX4 yX4_isWay wsX4_isWay) := goodIn_app (goodIn_of _ (by decide +kernel)) ggX4_isWayReading_X4_isWay
theorem dX4_isWayReading_0 : decode cX4_isWayReading 0 = .ok (.aload_n 0, 1) := by decide +kernel
theorem dX4_isWayReading_1 : decode cX4_isWayReading 1 = .ok (.getfield 48, 3) := by decide +kernel
theorem dX4_isWayReading_4 : decode cX4_isWayReading 4 = .ok (.iload_n 2, 1) := by decide +kernel
theorem dX4_isWayReading_5 : decode cX4_isWayReading 5 = .ok (.iaload, 1) := by decide +kernel
theorem dX4_isWayReading_6 : decode cX4_isWayReading 6 = .ok (.aload_n 0, 1) := by decide +kernel
theorem dX4_isWayReading_7 : decode cX4_isWayReading 7 = .ok (.getfield 33, 3) := by decide +kernel
theorem dX4_isWayReading_10 : decode cX4_isWayReading 10 = .ok (.iload_n 1, 1) := by decide +kernel
theorem dX4_isWayReading_11 : decode cX4_isWayReading 11 = .ok (.iaload, 1) := by decide +kernel
theorem dX4_isWayReading_12 : decode cX4_isWayReading 12 = .ok (.invokestatic 113, 3) := by decide +kernel
theorem dX4_isWayReading_15 : decode cX4_isWayReading 15 = .ok (.ifCond .eq 42, 3) := by decide +kernel
theorem dX4_isWayReading_18 : decode cX4_isWayReading 18 = .ok (.aload_n 0, 1) := by decide +kernel
theorem dX4_isWayReading_19 : decode cX4_isWayReading 19 = .ok (.iload_n 3, 1) := by decide +kernel
theorem dX4_isWayReading_20 : decode cX4_isWayReading 20 = .ok (.aload_n 0, 1) := by decide +kernel
theorem dX4_isWayReading_21 : decode cX4_isWayReading 21 = .ok (.getfield 33, 3) := by decide +kernel
theorem dX4_isWayReading_24 : decode cX4_isWayReading 24 = .ok (.iload_n 1, 1) := by decide +kernel
theorem dX4_isWayReading_25 : decode cX4_isWayReading 25 = .ok (.iaload, 1) := by decide +kernel
theorem dX4_isWayReading_26 : decode cX4_isWayReading 26 = .ok (.invokestatic 117, 3) := by decide +kernel
theorem dX4_isWayReading_29 : decode cX4_isWayReading 29 = .ok (.aload_n 0, 1) := by decide +kernel
theorem dX4_isWayReading_30 : decode cX4_isWayReading 30 = .ok (.iload_n 1, 1) := by decide +kernel
theorem dX4_isWayReading_31 : decode cX4_isWayReading 31 = .ok (.iload_n 3, 1) := by decide +kernel
theorem dX4_isWayReading_32 : decode cX4_isWayReading 32 = .ok (.invokevirtual 127, 3) := by decide +kernel
theorem dX4_isWayReading_35 : decode cX4_isWayReading 35 = .ok (.iload_n 3, 1) := by decide +kernel
theorem dX4_isWayReading_36 : decode cX4_isWayReading 36 = .ok (.iconst 1, 1) := by decide +kernel
theorem dX4_isWayReading_37 : decode cX4_isWayReading 37 = .ok (.iadd, 1) := by decide +kernel
theorem dX4_isWayReading_38 : decode cX4_isWayReading 38 = .ok (.aload_n 0, 1) := by decide +kernel
theorem dX4_isWayReading_39 : decode cX4_isWayReading 39 = .ok (.getfield 42, 3) := by decide +kernel
theorem dX4_isWayReading_42 : decode cX4_isWayReading 42 = .ok (.iload_n 1, 1) := by decide +kernel
theorem dX4_isWayReading_43 : decode cX4_isWayReading 43 = .ok (.iaload, 1) := by decide +kernel
theorem dX4_isWayReading_44 : decode cX4_isWayReading 44 = .ok (.invokestatic 117, 3) := by decide +kernel
theorem dX4_isWayReading_47 : decode cX4_isWayReading 47 = .ok (.invokevirtual 169, 3) := by decide +kernel
theorem dX4_isWayReading_50 : decode cX4_isWayReading 50 = .ok (.ifCond .eq 7, 3) := by decide +kernel
theorem dX4_isWayReading_53 : decode cX4_isWayReading 53 = .ok (.iconst 1, 1) := by decide +kernel
theorem dX4_isWayReading_54 : decode cX4_isWayReading 54 = .ok (.goto 4, 3) := by decide +kernel
theorem dX4_isWayReading_57 : decode cX4_isWayReading 57 = .ok (.iconst 0, 1) := by decide +kernel
theorem dX4_isWayReading_58 : decode cX4_isWayReading 58 = .ok (.ireturn, 1) := by decide +kernel
theorem dX4_isWay_0 : decode cX4_isWay 0 = .ok (.iload_n 2, 1) := by decide +kernel
theorem dX4_isWay_1 : decode cX4_isWay 1 = .ok (.iconst (-1), 1) := by decide +kernel
theorem dX4_isWay_2 : decode cX4_isWay 2 = .ok (.if_icmp .eq 14, 3) := by decide +kernel
theorem dX4_isWay_5 : decode cX4_isWay 5 = .ok (.aload_n 0, 1) := by decide +kernel
theorem dX4_isWay_6 : decode cX4_isWay 6 = .ok (.getfield 45, 3) := by decide +kernel
theorem dX4_isWay_9 : decode cX4_isWay 9 = .ok (.iload_n 3, 1) := by decide +kernel
theorem dX4_isWay_10 : decode cX4_isWay 10 = .ok (.iaload, 1) := by decide +kernel
theorem dX4_isWay_11 : decode cX4_isWay 11 = .ok (.ldc 103, 2) := by decide +kernel
theorem dX4_isWay_13 : decode cX4_isWay 13 = .ok (.if_icmp .lt 5, 3) := by decide +kernel
theorem dX4_isWay_16 : decode cX4_isWay 16 = .ok (.iconst 0, 1) := by decide +kernel
theorem dX4_isWay_17 : decode cX4_isWay 17 = .ok (.ireturn, 1) := by decide +kernel
theorem dX4_isWay_18 : decode cX4_isWay 18 = .ok (.aload_n 0, 1) := by decide +kernel
theorem dX4_isWay_19 : decode cX4_isWay 19 = .ok (.getfield 29, 3) := by decide +kernel
theorem dX4_isWay_22 : decode cX4_isWay 22 = .ok (.ifCond .eq 20, 3) := by decide +kernel
theorem dX4_isWay_25 : decode cX4_isWay 25 = .ok (.aload_n 0, 1) := by decide +kernel
theorem dX4_isWay_26 : decode cX4_isWay 26 = .ok (.getfield 45, 3) := by decide +kernel
theorem dX4_isWay_29 : decode cX4_isWay 29 = .ok (.iload_n 1, 1) := by decide +kernel
theorem dX4_isWay_30 : decode cX4_isWay 30 = .ok (.iaload, 1) := by decide +kernel
theorem dX4_isWay_31 : decode cX4_isWay 31 = .ok (.aload_n 0, 1) := by decide +kernel
theorem dX4_isWay_32 : decode cX4_isWay 32 = .ok (.getfield 45, 3) := by decide +kernel
theorem dX4_isWay_35 : decode cX4_isWay 35 = .ok (.iload_n 3, 1) := by decide +kernel
theorem dX4_isWay_36 : decode cX4_isWay 36 = .ok (.iaload, 1) := by decide +kernel
theorem dX4_isWay_37 : decode cX4_isWay 37 = .ok (.iload_n 2, 1) := by decide +kernel
theorem dX4_isWay_38 : decode cX4_isWay 38 = .ok (.iadd, 1) := by decide +kernel
theorem dX4_isWay_39 : decode cX4_isWay 39 = .ok (.if_icmp .ne 7, 3) := by decide +kernel
theorem dX4_isWay_42 : decode cX4_isWay 42 = .ok (.iconst 1, 1) := by decide +kernel
theorem dX4_isWay_43 : decode cX4_isWay 43 = .ok (.goto 4, 3) := by decide +kernel
theorem dX4_isWay_46 : decode cX4_isWay 46 = .ok (.iconst 0, 1) := by decide +kernel
theorem dX4_isWay_47 : decode cX4_isWay 47 = .ok (.ireturn, 1) := by decide +kernel
set_option maxRecDepth 20000 in
theorem ggX5_init_X6_init : GoodIn wsX5_init wsX6_init := goodIn_r _ [23, 24, 2, 3, 10, 25, 26, 27, 28, 29, 30, 31, 32] rfl (by decide +kernel)
set_option maxRecDepth 20000 in
theorem gX5_init_X6_init_n11 : GoodIn wsX5_init (wsX6_init) := ggX5_init_X6_init
theorem dX5_init_0 : decode cX5_init 0 = .ok (.aload_n 0, 1) := by decide +kernel
theorem dX5_init_1 : decode cX5_init 1 = .ok (.invokespecial 3, 3) := by decide +kernel
theorem dX5_init_4 : decode cX5_init 4 = .ok (.aload_n 0, 1) := by decide +kernel
theorem dX5_init_5 : decode cX5_init 5 = .ok (.new 9, 3) := by decide +kernel
theorem dX5_init_8 : decode cX5_init 8 = .ok (.dup, 1) := by decide +kernel
theorem dX5_init_9 : decode cX5_init 9 = .ok (.invokespecial 11, 3) := by decide +kernel
theorem dX5_init_12 : decode cX5_init 12 = .ok (.putfield 12, 3) := by decide +kernel
theorem dX5_init_15 : decode cX5_init 15 = .ok (.aload_n 0, 1) := by decide +kernel
theorem dX5_init_16 : decode cX5_init 16 = .ok (.new 9, 3) := by decide +kernel
theorem dX5_init_19 : decode cX5_init 19 = .ok (.dup, 1) := by decide +kernel
theorem dX5_init_20 : decode cX5_init 20 = .ok (.invokespecial 11, 3) := by decide +kernel
theorem dX5_init_23 : decode cX5_init 23 = .ok (.putfield 18, 3) := by decide +kernel
theorem dX5_init_26 : decode cX5_init 26 = .ok (.aload_n 0, 1) := by decide +kernel
theorem dX5_init_27 : decode cX5_init 27 = .ok (.iconst 0, 1) := by decide +kernel
theorem dX5_init_28 : decode cX5_init 28 = .ok (.putfield 21, 3) := by decide +kernel
theorem dX5_init_31 : decode cX5_init 31 = .ok (.aload_n 0, 1) := by decide +kernel
theorem dX5_init_32 : decode cX5_init 32 = .ok (.sipush 200, 3) := by decide +kernel
theorem dX5_init_35 : decode cX5_init 35 = .ok (.newarray .int, 2) := by decide +kernel
theorem dX5_init_37 : decode cX5_init 37 = .ok (.putfield 25, 3) := by decide +kernel
theorem dX5_init_40 : decode cX5_init 40 = .ok (.aload_n 0, 1) := by decide +kernel
theorem dX5_init_41 : decode cX5_init 41 = .ok (.sipush 200, 3) := by decide +kernel
theorem dX5_init_44 : decode cX5_init 44 = .ok (.newarray .int, 2) := by decide +kernel
theorem dX5_init_46 : decode cX5_init 46 = .ok (.putfield 29, 3) := by decide +kernel
theorem dX5_init_49 : decode cX5_init 49 = .ok (.aload_n 0, 1) := by decide +kernel
theorem dX5_init_50 : decode cX5_init 50 = .ok (.sipush 1600, 3) := by decide +kernel
theorem dX5_init_53 : decode cX5_init 53 = .ok (.newarray .int, 2) := by decide +kernel
theorem dX5_init_55 : decode cX5_init 55 = .ok (.putfield 32, 3) := by decide +kernel
theorem dX5_init_58 : decode cX5_init 58 = .ok (.aload_n 0, 1) := by decide +kernel
theorem dX5_init_59 : decode cX5_init 59 = .ok (.sipush 200, 3) := by decide +kernel
theorem dX5_init_62 : decode cX5_init 62 = .ok (.newarray .int, 2) := by decide +kernel
theorem dX5_init_64 : decode cX5_init 64 = .ok (.putfield 35, 3) := by decide +kernel
theorem dX5_init_67 : decode cX5_init 67 = .ok (.aload_n 0, 1) := by decide +kernel
theorem dX5_init_68 : decode cX5_init 68 = .ok (.sipush 200, 3) := by decide +kernel
theorem dX5_init_71 : decode cX5_init 71 = .ok (.newarray .int, 2) := by decide +kernel
theorem dX5_init_73 : decode cX5_init 73 = .ok (.putfield 38, 3) := by decide +kernel
theorem dX5_init_76 : decode cX5_init 76 = .ok (.aload_n 0, 1) := by decide +kernel
theorem dX5_init_77 : decode cX5_init 77 = .ok (.iconst 0, 1) := by decide +kernel
theorem dX5_init_78 : decode cX5_init 78 = .ok (.putfield 41, 3) := by decide +kernel
theorem dX5_init_81 : decode cX5_init 81 = .ok (.aload_n 0, 1) := by decide +kernel
theorem dX5_init_82 : decode cX5_init 82 = .ok (.sipush 200, 3) := by decide +kernel
theorem dX5_init_85 : decode cX5_init 85 = .ok (.newarray .boolean, 2) := by decide +kernel
theorem dX5_init_87 : decode cX5_init 87 = .ok (.putfield 44, 3) := by decide +kernel
theorem dX5_init_90 : decode cX5_init 90 = .ok (.aload_n 0, 1) := by decide +kernel
theorem dX5_init_91 : decode cX5_init 91 = .ok (.sipush 200, 3) := by decide +kernel
theorem dX5_init_94 : decode cX5_init 94 = .ok (.newarray .int, 2) := by decide +kernel
theorem dX5_init_96 : decode cX5_init 96 = .ok (.putfield 48, 3) := by decide +kernel
theorem dX5_init_99 : decode cX5_init 99 = .ok (.aload_n 0, 1) := by decide +kernel
theorem dX5_init_100 : decode cX5_init 100 = .ok (.sipush 200, 3) := by decide +kernel
theorem dX5_init_103 : decode cX5_init 103 = .ok (.newarray .int, 2) := by decide +kernel
theorem dX5_init_105 : decode cX5_init 105 = .ok (.putfield 51, 3) := by decide +kernel
theorem dX5_init_108 : decode cX5_init 108 = .ok (.aload_n 0, 1) := by decide +kernel
theorem dX5_init_109 : decode cX5_init 109 = .ok (.bipush 32, 2) := by decide +kernel
theorem dX5_init_111 : decode cX5_init 111 = .ok (.newarray .int, 2) := by decide +kernel
theorem dX5_init_113 : decode cX5_init 113 = .ok (.putfield 54, 3) := by decide +kernel
theorem dX5_init_116 : decode cX5_init 116 = .ok (.return_, 1) := by decide +kernel
set_option maxRecDepth 20000 in
theorem ggX5_exploreOne_X6_take : GoodIn wsX5_exploreOne wsX6_take := goodIn_r _ [8, 9, 10, 11, 12, 13, 14, 15, 16, 17, 18, 19, 20, 7, 21, 22, 23, 24, 25, 26, 27, 28, 79, 80, 81, 82, 83, 84, 85, 86, 87, 88] rfl (by decide +kernel)
set_option maxRecDepth 20000 in
theorem gX5_exploreOne_X6_take : GoodIn wsX5_exploreOne (wsV RX5 57 RX6 yX6_take wsX6_take) := goodIn_app (goodIn_of _ (by decide +kernel)) ggX5_exploreOne_X6_take
set_option maxRecDepth 20000 in
theorem ggX5_exploreOne_X6_takeNothing : GoodIn wsX5_exploreOne wsX6_takeNothing := goodIn_r _ [32, 10, 12, 82, 83, 84, 85] rfl (by decide +kernel)
set_option maxRecDepth 20000 in
theorem gX5_exploreOne_X6_takeNothing : GoodIn wsX5_exploreOne (wsV RX5 61 RX6 yX6_takeNothing wsX6_takeNothing) := goodIn_app (goodIn_of _ (by decide +kernel)) ggX5_exploreOne_X6_takeNothing
set_option maxRecDepth 20000 in
theorem ggX5_exploreOne_X5_explore : GoodIn wsX5_exploreOne wsX5_explore := goodIn_r _ [37, 38, 1, 2, 39, 40, 41, 42, 43, 44, 7, 45, 10, 17, 46, 47, 48, 36, 49, 50, 51, 52, 53, 54, 55, 13, 56, 23, 57, 58, 59, 60, 61, 3, 62, 63, 64, 65, 66, 67, 68, 69, 70, 71, 72, 73, 74, 75, 76, 77, 78, 82, 83, 84, 85] rfl (by decide +kernel)
set_option maxRecDepth 20000 in
theorem gX5_exploreOne_X5_explore : GoodIn wsX5_exploreOne (wsV RX5 64 RX5 yX5_explore wsX5_explore) := goodIn_app (goodIn_of _ (by decide +kernel)) ggX5_exploreOne_X5_explore
theorem dX5_exploreOne_0 : decode cX5_exploreOne 0 = .ok (.aload_n 0, 1) := by decide +kernel
theorem dX5_exploreOne_1 : decode cX5_exploreOne 1 = .ok (.getfield 12, 3) := by decide +kernel
theorem dX5_exploreOne_4 : decode cX5_exploreOne 4 = .ok (.aload_n 1, 1) := by decide +kernel
theorem dX5_exploreOne_5 : decode cX5_exploreOne 5 = .ok (.invokevirtual 57, 3) := by decide +kernel
theorem dX5_exploreOne_8 : decode cX5_exploreOne 8 = .ok (.aload_n 0, 1) := by decide +kernel
theorem dX5_exploreOne_9 : decode cX5_exploreOne 9 = .ok (.getfield 18, 3) := by decide +kernel
theorem dX5_exploreOne_12 : decode cX5_exploreOne 12 = .ok (.invokevirtual 61, 3) := by decide +kernel
theorem dX5_exploreOne_15 : decode cX5_exploreOne 15 = .ok (.aload_n 0, 1) := by decide +kernel
theorem dX5_exploreOne_16 : decode cX5_exploreOne 16 = .ok (.iconst 0, 1) := by decide +kernel
theorem dX5_exploreOne_17 : decode cX5_exploreOne 17 = .ok (.putfield 21, 3) := by decide +kernel
theorem dX5_exploreOne_20 : decode cX5_exploreOne 20 = .ok (.aload_n 0, 1) := by decide +kernel
theorem dX5_exploreOne_21 : decode cX5_exploreOne 21 = .ok (.invokevirtual 64, 3) := by decide +kernel
theorem dX5_exploreOne_24 : decode cX5_exploreOne 24 = .ok (.ireturn, 1) := by decide +kernel
set_option maxRecDepth 20000 in
theorem ggX5_exploreTwo_X6_take : GoodIn wsX5_exploreTwo wsX6_take := goodIn_r _ [8, 9, 10, 11, 12, 13, 14, 15, 16, 17, 18, 19, 20, 7, 21, 22, 23, 24, 25, 26, 27, 28, 75, 76, 77, 78, 79, 80, 81, 82, 83, 84] rfl (by decide +kernel)
set_option maxRecDepth 20000 in
theorem gX5_exploreTwo_X6_take : GoodIn wsX5_exploreTwo (wsV RX5 57 RX6 yX6_take wsX6_take) := goodIn_app (goodIn_of _ (by decide +kernel)) ggX5_exploreTwo_X6_take
set_option maxRecDepth 20000 in
theorem ggX5_exploreTwo_X5_explore : GoodIn wsX5_exploreTwo wsX5_explore := goodIn_r _ [33, 34, 1, 2, 35, 36, 37, 38, 39, 40, 7, 41, 10, 17, 42, 43, 44, 32, 45, 46, 47, 48, 49, 50, 51, 13, 52, 23, 53, 54, 55, 56, 57, 3, 58, 59, 60, 61, 62, 63, 64, 65, 66, 67, 68, 69, 70, 71, 72, 73, 74, 78, 79, 80, 81] rfl (by decide +kernel)
set_option maxRecDepth 20000 in
theorem gX5_exploreTwo_X5_explore : GoodIn wsX5_exploreTwo (wsV RX5 64 RX5 yX5_explore wsX5_explore) := goodIn_app (goodIn_of _ (by decide +kernel)) ggX5_exploreTwo_X5_explore
theorem dX5_exploreTwo_0 : decode cX5_exploreTwo 0 = .ok (.aload_n 0, 1) := by decide +kernel
theorem dX5_exploreTwo_1 : decode cX5_exploreTwo 1 = .ok (.getfield 12, 3) := by decide +kernel
theorem dX5_exploreTwo_4 : decode cX5_exploreTwo 4 = .ok (.aload_n 1, 1) := by decide +kernel
theorem dX5_exploreTwo_5 : decode cX5_exploreTwo 5 = .ok (.invokevirtual 57, 3) := by decide +kernel
theorem dX5_exploreTwo_8 : decode cX5_exploreTwo 8 = .ok (.aload_n 0, 1) := by decide +kernel
theorem dX5_exploreTwo_9 : decode cX5_exploreTwo 9 = .ok (.getfield 18, 3) := by decide +kernel
theorem dX5_exploreTwo_12 : decode cX5_exploreTwo 12 = .ok (.aload_n 2, 1) := by decide +kernel
theorem dX5_exploreTwo_13 : decode cX5_exploreTwo 13 = .ok (.invokevirtual 57, 3) := by decide +kernel
theorem dX5_exploreTwo_16 : decode cX5_exploreTwo 16 = .ok (.aload_n 0, 1) := by decide +kernel
theorem dX5_exploreTwo_17 : decode cX5_exploreTwo 17 = .ok (.iload_n 3, 1) := by decide +kernel
theorem dX5_exploreTwo_18 : decode cX5_exploreTwo 18 = .ok (.putfield 21, 3) := by decide +kernel
theorem dX5_exploreTwo_21 : decode cX5_exploreTwo 21 = .ok (.aload_n 0, 1) := by decide +kernel
theorem dX5_exploreTwo_22 : decode cX5_exploreTwo 22 = .ok (.invokevirtual 64, 3) := by decide +kernel
theorem dX5_exploreTwo_25 : decode cX5_exploreTwo 25 = .ok (.ireturn, 1) := by decide +kernel
set_option maxRecDepth 20000 in
theorem ggX5_explore_X6_firstSet : GoodIn wsX5_explore wsX6_firstSet := goodIn_r _ [11, 12, 13, 51, 52, 53, 54] rfl (by decide +kernel)
set_option maxRecDepth 20000 in
theorem gX5_explore_X6_firstSet : GoodIn wsX5_explore (wsV RX5 68 RX6 yX6_firstSet wsX6_firstSet) := goodIn_app (goodIn_of _ (by decide +kernel)) ggX5_explore_X6_firstSet
set_option maxRecDepth 20000 in
theorem ggX5_explore_X5_addPair : GoodIn wsX5_explore wsX5_addPair := goodIn_r _ [18, 1, 4, 5, 19, 20, 38, 39, 40, 41, 42, 43, 44, 45, 46, 47, 48, 49, 50] rfl (by decide +kernel)
set_option maxRecDepth 20000 in
theorem gX5_explore_X5_addPair : GoodIn wsX5_explore (wsV RX5 72 RX5 yX5_addPair wsX5_addPair) := goodIn_app (goodIn_of _ (by decide +kernel)) ggX5_explore_X5_addPair
set_option maxRecDepth 20000 in
theorem ggX5_explore_X6_setBehind : GoodIn wsX5_explore wsX6_setBehind := goodIn_r _ [24, 12, 25, 26, 27, 28, 51, 52, 53, 54] rfl (by decide +kernel)
set_option maxRecDepth 20000 in
theorem gX5_explore_X6_setBehind : GoodIn wsX5_explore (wsV RX5 76 RX6 yX6_setBehind wsX6_setBehind) := goodIn_app (goodIn_of _ (by decide +kernel)) ggX5_explore_X6_setBehind
set_option maxRecDepth 20000 in
theorem ggX5_explore_X5_isLookedAt : GoodIn wsX5_explore wsX5_isLookedAt := goodIn_r _ [32, 33, 38, 39, 40, 41, 42, 43, 44, 45, 46, 47, 48, 49, 50] rfl (by decide +kernel)
set_option maxRecDepth 20000 in
theorem gX5_explore_X5_isLookedAt : GoodIn wsX5_explore (wsV RX5 80 RX5 yX5_isLookedAt wsX5_isLookedAt) := goodIn_app (goodIn_of _ (by decide +kernel)) ggX5_explore_X5_isLookedAt
set_option maxRecDepth 20000 in
theorem ggX5_explore_X5_placeOf : GoodIn wsX5_explore wsX5_placeOf := goodIn_r _ [37, 1, 4, 5, 38, 39, 40, 41, 42, 43, 44, 45, 46, 47, 48, 49, 50] rfl (by decide +kernel)
set_option maxRecDepth 20000 in
theorem gX5_explore_X5_placeOf : GoodIn wsX5_explore (wsV RX5 84 RX5 yX5_placeOf wsX5_placeOf) := goodIn_app (goodIn_of _ (by decide +kernel)) ggX5_explore_X5_placeOf
theorem dX5_explore_0 : decode cX5_explore 0 = .ok (.aload_n 0, 1) := by decide +kernel
theorem dX5_explore_1 : decode cX5_explore 1 = .ok (.iconst 0, 1) := by decide +kernel
theorem dX5_explore_2 : decode cX5_explore 2 = .ok (.putfield 41, 3) := by decide +kernel
theorem dX5_explore_5 : decode cX5_explore 5 = .ok (.aload_n 0, 1) := by decide +kernel
theorem dX5_explore_6 : decode cX5_explore 6 = .ok (.aload_n 0, 1) := by decide +kernel
theorem dX5_explore_7 : decode cX5_explore 7 = .ok (.getfield 12, 3) := by decide +kernel
theorem dX5_explore_10 : decode cX5_explore 10 = .ok (.invokevirtual 68, 3) := by decide +kernel
theorem dX5_explore_13 : decode cX5_explore 13 = .ok (.aload_n 0, 1) := by decide +kernel
theorem dX5_explore_14 : decode cX5_explore 14 = .ok (.getfield 18, 3) := by decide +kernel
theorem dX5_explore_17 : decode cX5_explore 17 = .ok (.invokevirtual 68, 3) := by decide +kernel
theorem dX5_explore_20 : decode cX5_explore 20 = .ok (.iconst (-1), 1) := by decide +kernel
theorem dX5_explore_21 : decode cX5_explore 21 = .ok (.iconst (-1), 1) := by decide +kernel
theorem dX5_explore_22 : decode cX5_explore 22 = .ok (.invokevirtual 72, 3) := by decide +kernel
theorem dX5_explore_25 : decode cX5_explore 25 = .ok (.pop, 1) := by decide +kernel
theorem dX5_explore_26 : decode cX5_explore 26 = .ok (.iconst 0, 1) := by decide +kernel
theorem dX5_explore_27 : decode cX5_explore 27 = .ok (.istore_n 1, 1) := by decide +kernel
theorem dX5_explore_28 : decode cX5_explore 28 = .ok (.iload_n 1, 1) := by decide +kernel
theorem dX5_explore_29 : decode cX5_explore 29 = .ok (.aload_n 0, 1) := by decide +kernel
theorem dX5_explore_30 : decode cX5_explore 30 = .ok (.getfield 41, 3) := by decide +kernel
theorem dX5_explore_33 : decode cX5_explore 33 = .ok (.if_icmp .ge 119, 3) := by decide +kernel
theorem dX5_explore_36 : decode cX5_explore 36 = .ok (.iload_n 1, 1) := by decide +kernel
theorem dX5_explore_37 : decode cX5_explore 37 = .ok (.sipush 200, 3) := by decide +kernel
theorem dX5_explore_40 : decode cX5_explore 40 = .ok (.if_icmp .ge 112, 3) := by decide +kernel
theorem dX5_explore_43 : decode cX5_explore 43 = .ok (.iconst 0, 1) := by decide +kernel
theorem dX5_explore_44 : decode cX5_explore 44 = .ok (.istore_n 2, 1) := by decide +kernel
theorem dX5_explore_45 : decode cX5_explore 45 = .ok (.iload_n 2, 1) := by decide +kernel
theorem dX5_explore_46 : decode cX5_explore 46 = .ok (.bipush 8, 2) := by decide +kernel
theorem dX5_explore_48 : decode cX5_explore 48 = .ok (.if_icmp .ge 98, 3) := by decide +kernel
theorem dX5_explore_51 : decode cX5_explore 51 = .ok (.aload_n 0, 1) := by decide +kernel
theorem dX5_explore_52 : decode cX5_explore 52 = .ok (.getfield 12, 3) := by decide +kernel
theorem dX5_explore_55 : decode cX5_explore 55 = .ok (.aload_n 0, 1) := by decide +kernel
theorem dX5_explore_56 : decode cX5_explore 56 = .ok (.getfield 25, 3) := by decide +kernel
theorem dX5_explore_59 : decode cX5_explore 59 = .ok (.iload_n 1, 1) := by decide +kernel
theorem dX5_explore_60 : decode cX5_explore 60 = .ok (.iaload, 1) := by decide +kernel
theorem dX5_explore_61 : decode cX5_explore 61 = .ok (.iload_n 2, 1) := by decide +kernel
theorem dX5_explore_62 : decode cX5_explore 62 = .ok (.invokevirtual 76, 3) := by decide +kernel
theorem dX5_explore_65 : decode cX5_explore 65 = .ok (.istore_n 3, 1) := by decide +kernel
theorem dX5_explore_66 : decode cX5_explore 66 = .ok (.aload_n 0, 1) := by decide +kernel
theorem dX5_explore_67 : decode cX5_explore 67 = .ok (.getfield 18, 3) := by decide +kernel
theorem dX5_explore_70 : decode cX5_explore 70 = .ok (.aload_n 0, 1) := by decide +kernel
theorem dX5_explore_71 : decode cX5_explore 71 = .ok (.getfield 29, 3) := by decide +kernel
theorem dX5_explore_74 : decode cX5_explore 74 = .ok (.iload_n 1, 1) := by decide +kernel
theorem dX5_explore_75 : decode cX5_explore 75 = .ok (.iaload, 1) := by decide +kernel
theorem dX5_explore_76 : decode cX5_explore 76 = .ok (.iload_n 2, 1) := by decide +kernel
theorem dX5_explore_77 : decode cX5_explore 77 = .ok (.invokevirtual 76, 3) := by decide +kernel
theorem dX5_explore_80 : decode cX5_explore 80 = .ok (.istore 4, 2) := by decide +kernel
theorem dX5_explore_82 : decode cX5_explore 82 = .ok (.iconst (-1), 1) := by decide +kernel
theorem dX5_explore_83 : decode cX5_explore 83 = .ok (.istore 5, 2) := by decide +kernel
theorem dX5_explore_85 : decode cX5_explore 85 = .ok (.aload_n 0, 1) := by decide +kernel
theorem dX5_explore_86 : decode cX5_explore 86 = .ok (.iload_n 3, 1) := by decide +kernel
theorem dX5_explore_87 : decode cX5_explore 87 = .ok (.iload 4, 2) := by decide +kernel
theorem dX5_explore_89 : decode cX5_explore 89 = .ok (.invokevirtual 80, 3) := by decide +kernel
theorem dX5_explore_92 : decode cX5_explore 92 = .ok (.ifCond .eq 35, 3) := by decide +kernel
theorem dX5_explore_95 : decode cX5_explore 95 = .ok (.aload_n 0, 1) := by decide +kernel
theorem dX5_explore_96 : decode cX5_explore 96 = .ok (.iload_n 3, 1) := by decide +kernel
theorem dX5_explore_97 : decode cX5_explore 97 = .ok (.iload 4, 2) := by decide +kernel
theorem dX5_explore_99 : decode cX5_explore 99 = .ok (.invokevirtual 84, 3) := by decide +kernel
theorem dX5_explore_102 : decode cX5_explore 102 = .ok (.istore 5, 2) := by decide +kernel
theorem dX5_explore_104 : decode cX5_explore 104 = .ok (.iload 5, 2) := by decide +kernel
theorem dX5_explore_106 : decode cX5_explore 106 = .ok (.aload_n 0, 1) := by decide +kernel
theorem dX5_explore_107 : decode cX5_explore 107 = .ok (.getfield 41, 3) := by decide +kernel
theorem dX5_explore_110 : decode cX5_explore 110 = .ok (.if_icmp .ne 17, 3) := by decide +kernel
theorem dX5_explore_113 : decode cX5_explore 113 = .ok (.aload_n 0, 1) := by decide +kernel
theorem dX5_explore_114 : decode cX5_explore 114 = .ok (.iload_n 3, 1) := by decide +kernel
theorem dX5_explore_115 : decode cX5_explore 115 = .ok (.iload 4, 2) := by decide +kernel
theorem dX5_explore_117 : decode cX5_explore 117 = .ok (.iload_n 1, 1) := by decide +kernel
theorem dX5_explore_118 : decode cX5_explore 118 = .ok (.iload_n 2, 1) := by decide +kernel
theorem dX5_explore_119 : decode cX5_explore 119 = .ok (.invokevirtual 72, 3) := by decide +kernel
theorem dX5_explore_122 : decode cX5_explore 122 = .ok (.ifCond .ne 5, 3) := by decide +kernel
theorem dX5_explore_125 : decode cX5_explore 125 = .ok (.iconst 0, 1) := by decide +kernel
theorem dX5_explore_126 : decode cX5_explore 126 = .ok (.ireturn, 1) := by decide +kernel
theorem dX5_explore_127 : decode cX5_explore 127 = .ok (.aload_n 0, 1) := by decide +kernel
theorem dX5_explore_128 : decode cX5_explore 128 = .ok (.getfield 32, 3) := by decide +kernel
theorem dX5_explore_131 : decode cX5_explore 131 = .ok (.iload_n 1, 1) := by decide +kernel
theorem dX5_explore_132 : decode cX5_explore 132 = .ok (.bipush 8, 2) := by decide +kernel
theorem dX5_explore_134 : decode cX5_explore 134 = .ok (.imul, 1) := by decide +kernel
theorem dX5_explore_135 : decode cX5_explore 135 = .ok (.iload_n 2, 1) := by decide +kernel
theorem dX5_explore_136 : decode cX5_explore 136 = .ok (.iadd, 1) := by decide +kernel
theorem dX5_explore_137 : decode cX5_explore 137 = .ok (.iload 5, 2) := by decide +kernel
theorem dX5_explore_139 : decode cX5_explore 139 = .ok (.iastore, 1) := by decide +kernel
theorem dX5_explore_140 : decode cX5_explore 140 = .ok (.iinc 2 1, 3) := by decide +kernel
theorem dX5_explore_143 : decode cX5_explore 143 = .ok (.goto (-98), 3) := by decide +kernel
theorem dX5_explore_146 : decode cX5_explore 146 = .ok (.iinc 1 1, 3) := by decide +kernel
theorem dX5_explore_149 : decode cX5_explore 149 = .ok (.goto (-121), 3) := by decide +kernel
theorem dX5_explore_152 : decode cX5_explore 152 = .ok (.iconst 1, 1) := by decide +kernel
theorem dX5_explore_153 : decode cX5_explore 153 = .ok (.ireturn, 1) := by decide +kernel
theorem dX5_isLookedAt_0 : decode cX5_isLookedAt 0 = .ok (.aload_n 0, 1) := by decide +kernel
theorem dX5_isLookedAt_1 : decode cX5_isLookedAt 1 = .ok (.getfield 21, 3) := by decide +kernel
theorem dX5_isLookedAt_4 : decode cX5_isLookedAt 4 = .ok (.iconst 1, 1) := by decide +kernel
theorem dX5_isLookedAt_5 : decode cX5_isLookedAt 5 = .ok (.if_icmp .ne 17, 3) := by decide +kernel
theorem dX5_isLookedAt_8 : decode cX5_isLookedAt 8 = .ok (.iload_n 1, 1) := by decide +kernel
theorem dX5_isLookedAt_9 : decode cX5_isLookedAt 9 = .ok (.ifCond .eq 11, 3) := by decide +kernel
theorem dX5_isLookedAt_12 : decode cX5_isLookedAt 12 = .ok (.iload_n 2, 1) := by decide +kernel
theorem dX5_isLookedAt_13 : decode cX5_isLookedAt 13 = .ok (.ifCond .eq 7, 3) := by decide +kernel
theorem dX5_isLookedAt_16 : decode cX5_isLookedAt 16 = .ok (.iconst 1, 1) := by decide +kernel
theorem dX5_isLookedAt_17 : decode cX5_isLookedAt 17 = .ok (.goto 4, 3) := by decide +kernel
theorem dX5_isLookedAt_20 : decode cX5_isLookedAt 20 = .ok (.iconst 0, 1) := by decide +kernel
theorem dX5_isLookedAt_21 : decode cX5_isLookedAt 21 = .ok (.ireturn, 1) := by decide +kernel
theorem dX5_isLookedAt_22 : decode cX5_isLookedAt 22 = .ok (.iload_n 1, 1) := by decide +kernel
theorem dX5_isLookedAt_23 : decode cX5_isLookedAt 23 = .ok (.ifCond .ne 15, 3) := by decide +kernel
theorem dX5_isLookedAt_26 : decode cX5_isLookedAt 26 = .ok (.aload_n 0, 1) := by decide +kernel
theorem dX5_isLookedAt_27 : decode cX5_isLookedAt 27 = .ok (.getfield 21, 3) := by decide +kernel
theorem dX5_isLookedAt_30 : decode cX5_isLookedAt 30 = .ok (.iconst 2, 1) := by decide +kernel
theorem dX5_isLookedAt_31 : decode cX5_isLookedAt 31 = .ok (.if_icmp .ne 11, 3) := by decide +kernel
theorem dX5_isLookedAt_34 : decode cX5_isLookedAt 34 = .ok (.iload_n 2, 1) := by decide +kernel
theorem dX5_isLookedAt_35 : decode cX5_isLookedAt 35 = .ok (.ifCond .eq 7, 3) := by decide +kernel
theorem dX5_isLookedAt_38 : decode cX5_isLookedAt 38 = .ok (.iconst 1, 1) := by decide +kernel
theorem dX5_isLookedAt_39 : decode cX5_isLookedAt 39 = .ok (.goto 4, 3) := by decide +kernel
theorem dX5_isLookedAt_42 : decode cX5_isLookedAt 42 = .ok (.iconst 0, 1) := by decide +kernel
theorem dX5_isLookedAt_43 : decode cX5_isLookedAt 43 = .ok (.ireturn, 1) := by decide +kernel
theorem dX5_placeOf_0 : decode cX5_placeOf 0 = .ok (.iconst 0, 1) := by decide +kernel
theorem dX5_placeOf_1 : decode cX5_placeOf 1 = .ok (.istore_n 3, 1) := by decide +kernel
theorem dX5_placeOf_2 : decode cX5_placeOf 2 = .ok (.iload_n 3, 1) := by decide +kernel
theorem dX5_placeOf_3 : decode cX5_placeOf 3 = .ok (.aload_n 0, 1) := by decide +kernel
theorem dX5_placeOf_4 : decode cX5_placeOf 4 = .ok (.getfield 41, 3) := by decide +kernel
theorem dX5_placeOf_7 : decode cX5_placeOf 7 = .ok (.if_icmp .ge 31, 3) := by decide +kernel
theorem dX5_placeOf_10 : decode cX5_placeOf 10 = .ok (.aload_n 0, 1) := by decide +kernel
theorem dX5_placeOf_11 : decode cX5_placeOf 11 = .ok (.getfield 25, 3) := by decide +kernel
theorem dX5_placeOf_14 : decode cX5_placeOf 14 = .ok (.iload_n 3, 1) := by decide +kernel
theorem dX5_placeOf_15 : decode cX5_placeOf 15 = .ok (.iaload, 1) := by decide +kernel
theorem dX5_placeOf_16 : decode cX5_placeOf 16 = .ok (.iload_n 1, 1) := by decide +kernel
theorem dX5_placeOf_17 : decode cX5_placeOf 17 = .ok (.if_icmp .ne 15, 3) := by decide +kernel
theorem dX5_placeOf_20 : decode cX5_placeOf 20 = .ok (.aload_n 0, 1) := by decide +kernel
theorem dX5_placeOf_21 : decode cX5_placeOf 21 = .ok (.getfield 29, 3) := by decide +kernel
theorem dX5_placeOf_24 : decode cX5_placeOf 24 = .ok (.iload_n 3, 1) := by decide +kernel
theorem dX5_placeOf_25 : decode cX5_placeOf 25 = .ok (.iaload, 1) := by decide +kernel
theorem dX5_placeOf_26 : decode cX5_placeOf 26 = .ok (.iload_n 2, 1) := by decide +kernel
theorem dX5_placeOf_27 : decode cX5_placeOf 27 = .ok (.if_icmp .ne 5, 3) := by decide +kernel
theorem dX5_placeOf_30 : decode cX5_placeOf 30 = .ok (.iload_n 3, 1) := by decide +kernel
theorem dX5_placeOf_31 : decode cX5_placeOf 31 = .ok (.ireturn, 1) := by decide +kernel
theorem dX5_placeOf_32 : decode cX5_placeOf 32 = .ok (.iinc 3 1, 3) := by decide +kernel
theorem dX5_placeOf_35 : decode cX5_placeOf 35 = .ok (.goto (-33), 3) := by decide +kernel
theorem dX5_placeOf_38 : decode cX5_placeOf 38 = .ok (.aload_n 0, 1) := by decide +kernel
theorem dX5_placeOf_39 : decode cX5_placeOf 39 = .ok (.getfield 41, 3) := by decide +kernel
theorem dX5_placeOf_42 : decode cX5_placeOf 42 = .ok (.ireturn, 1) := by decide +kernel
theorem dX5_addPair_0 : decode cX5_addPair 0 = .ok (.aload_n 0, 1) := by decide +kernel
theorem dX5_addPair_1 : decode cX5_addPair 1 = .ok (.getfield 41, 3) := by decide +kernel
theorem dX5_addPair_4 : decode cX5_addPair 4 = .ok (.sipush 200, 3) := by decide +kernel
theorem dX5_addPair_7 : decode cX5_addPair 7 = .ok (.if_icmp .lt 5, 3) := by decide +kernel
theorem dX5_addPair_10 : decode cX5_addPair 10 = .ok (.iconst 0, 1) := by decide +kernel
theorem dX5_addPair_11 : decode cX5_addPair 11 = .ok (.ireturn, 1) := by decide +kernel
theorem dX5_addPair_12 : decode cX5_addPair 12 = .ok (.aload_n 0, 1) := by decide +kernel
theorem dX5_addPair_13 : decode cX5_addPair 13 = .ok (.getfield 25, 3) := by decide +kernel
theorem dX5_addPair_16 : decode cX5_addPair 16 = .ok (.aload_n 0, 1) := by decide +kernel
theorem dX5_addPair_17 : decode cX5_addPair 17 = .ok (.getfield 41, 3) := by decide +kernel
theorem dX5_addPair_20 : decode cX5_addPair 20 = .ok (.iload_n 1, 1) := by decide +kernel
theorem dX5_addPair_21 : decode cX5_addPair 21 = .ok (.iastore, 1) := by decide +kernel
theorem dX5_addPair_22 : decode cX5_addPair 22 = .ok (.aload_n 0, 1) := by decide +kernel
theorem dX5_addPair_23 : decode cX5_addPair 23 = .ok (.getfield 29, 3) := by decide +kernel
theorem dX5_addPair_26 : decode cX5_addPair 26 = .ok (.aload_n 0, 1) := by decide +kernel
theorem dX5_addPair_27 : decode cX5_addPair 27 = .ok (.getfield 41, 3) := by decide +kernel
theorem dX5_addPair_30 : decode cX5_addPair 30 = .ok (.iload_n 2, 1) := by decide +kernel
theorem dX5_addPair_31 : decode cX5_addPair 31 = .ok (.iastore, 1) := by decide +kernel
theorem dX5_addPair_32 : decode cX5_addPair 32 = .ok (.aload_n 0, 1) := by decide +kernel
theorem dX5_addPair_33 : decode cX5_addPair 33 = .ok (.getfield 35, 3) := by decide +kernel
theorem dX5_addPair_36 : decode cX5_addPair 36 = .ok (.aload_n 0, 1) := by decide +kernel
theorem dX5_addPair_37 : decode cX5_addPair 37 = .ok (.getfield 41, 3) := by decide +kernel
theorem dX5_addPair_40 : decode cX5_addPair 40 = .ok (.iload_n 3, 1) := by decide +kernel
theorem dX5_addPair_41 : decode cX5_addPair 41 = .ok (.iastore, 1) := by decide +kernel
theorem dX5_addPair_42 : decode cX5_addPair 42 = .ok (.aload_n 0, 1) := by decide +kernel
theorem dX5_addPair_43 : decode cX5_addPair 43 = .ok (.getfield 38, 3) := by decide +kernel
theorem dX5_addPair_46 : decode cX5_addPair 46 = .ok (.aload_n 0, 1) := by decide +kernel
theorem dX5_addPair_47 : decode cX5_addPair 47 = .ok (.getfield 41, 3) := by decide +kernel
theorem dX5_addPair_50 : decode cX5_addPair 50 = .ok (.iload 4, 2) := by decide +kernel
theorem dX5_addPair_52 : decode cX5_addPair 52 = .ok (.iastore, 1) := by decide +kernel
theorem dX5_addPair_53 : decode cX5_addPair 53 = .ok (.aload_n 0, 1) := by decide +kernel
theorem dX5_addPair_54 : decode cX5_addPair 54 = .ok (.dup, 1) := by decide +kernel
theorem dX5_addPair_55 : decode cX5_addPair 55 = .ok (.getfield 41, 3) := by decide +kernel
theorem dX5_addPair_58 : decode cX5_addPair 58 = .ok (.iconst 1, 1) := by decide +kernel
theorem dX5_addPair_59 : decode cX5_addPair 59 = .ok (.iadd, 1) := by decide +kernel
theorem dX5_addPair_60 : decode cX5_addPair 60 = .ok (.putfield 41, 3) := by decide +kernel
theorem dX5_addPair_63 : decode cX5_addPair 63 = .ok (.iconst 1, 1) := by decide +kernel
theorem dX5_addPair_64 : decode cX5_addPair 64 = .ok (.ireturn, 1) := by decide +kernel
set_option maxRecDepth 20000 in
theorem ggX5_isWanted_X6_hasEndIn : GoodIn wsX5_isWanted wsX6_hasEndIn := goodIn_r _ [10, 11, 25, 26, 27, 28] rfl (by decide +kernel)
set_option maxRecDepth 20000 in
theorem gX5_isWanted_X6_hasEndIn : GoodIn wsX5_isWanted (wsV RX5 87 RX6 yX6_hasEndIn wsX6_hasEndIn) := goodIn_app (goodIn_of _ (by decide +kernel)) ggX5_isWanted_X6_hasEndIn
theorem dX5_isWanted_0 : decode cX5_isWanted 0 = .ok (.aload_n 0, 1) := by decide +kernel
theorem dX5_isWanted_1 : decode cX5_isWanted 1 = .ok (.getfield 12, 3) := by decide +kernel
theorem dX5_isWanted_4 : decode cX5_isWanted 4 = .ok (.aload_n 0, 1) := by decide +kernel
theorem dX5_isWanted_5 : decode cX5_isWanted 5 = .ok (.getfield 25, 3) := by decide +kernel
theorem dX5_isWanted_8 : decode cX5_isWanted 8 = .ok (.iload_n 1, 1) := by decide +kernel
theorem dX5_isWanted_9 : decode cX5_isWanted 9 = .ok (.iaload, 1) := by decide +kernel
theorem dX5_isWanted_10 : decode cX5_isWanted 10 = .ok (.invokevirtual 87, 3) := by decide +kernel
theorem dX5_isWanted_13 : decode cX5_isWanted 13 = .ok (.istore_n 2, 1) := by decide +kernel
theorem dX5_isWanted_14 : decode cX5_isWanted 14 = .ok (.aload_n 0, 1) := by decide +kernel
theorem dX5_isWanted_15 : decode cX5_isWanted 15 = .ok (.getfield 18, 3) := by decide +kernel
theorem dX5_isWanted_18 : decode cX5_isWanted 18 = .ok (.aload_n 0, 1) := by decide +kernel
theorem dX5_isWanted_19 : decode cX5_isWanted 19 = .ok (.getfield 29, 3) := by decide +kernel
theorem dX5_isWanted_22 : decode cX5_isWanted 22 = .ok (.iload_n 1, 1) := by decide +kernel
theorem dX5_isWanted_23 : decode cX5_isWanted 23 = .ok (.iaload, 1) := by decide +kernel
theorem dX5_isWanted_24 : decode cX5_isWanted 24 = .ok (.invokevirtual 87, 3) := by decide +kernel
theorem dX5_isWanted_27 : decode cX5_isWanted 27 = .ok (.istore_n 3, 1) := by decide +kernel
theorem dX5_isWanted_28 : decode cX5_isWanted 28 = .ok (.aload_n 0, 1) := by decide +kernel
theorem dX5_isWanted_29 : decode cX5_isWanted 29 = .ok (.getfield 21, 3) := by decide +kernel
theorem dX5_isWanted_32 : decode cX5_isWanted 32 = .ok (.iconst 1, 1) := by decide +kernel
theorem dX5_isWanted_33 : decode cX5_isWanted 33 = .ok (.if_icmp .ne 17, 3) := by decide +kernel
theorem dX5_isWanted_36 : decode cX5_isWanted 36 = .ok (.iload_n 2, 1) := by decide +kernel
theorem dX5_isWanted_37 : decode cX5_isWanted 37 = .ok (.ifCond .eq 11, 3) := by decide +kernel
theorem dX5_isWanted_40 : decode cX5_isWanted 40 = .ok (.iload_n 3, 1) := by decide +kernel
theorem dX5_isWanted_41 : decode cX5_isWanted 41 = .ok (.ifCond .eq 7, 3) := by decide +kernel
theorem dX5_isWanted_44 : decode cX5_isWanted 44 = .ok (.iconst 1, 1) := by decide +kernel
theorem dX5_isWanted_45 : decode cX5_isWanted 45 = .ok (.goto 4, 3) := by decide +kernel
theorem dX5_isWanted_48 : decode cX5_isWanted 48 = .ok (.iconst 0, 1) := by decide +kernel
theorem dX5_isWanted_49 : decode cX5_isWanted 49 = .ok (.ireturn, 1) := by decide +kernel
theorem dX5_isWanted_50 : decode cX5_isWanted 50 = .ok (.aload_n 0, 1) := by decide +kernel
theorem dX5_isWanted_51 : decode cX5_isWanted 51 = .ok (.getfield 21, 3) := by decide +kernel
theorem dX5_isWanted_54 : decode cX5_isWanted 54 = .ok (.iconst 2, 1) := by decide +kernel
theorem dX5_isWanted_55 : decode cX5_isWanted 55 = .ok (.if_icmp .ne 16, 3) := by decide +kernel
theorem dX5_isWanted_58 : decode cX5_isWanted 58 = .ok (.iload_n 2, 1) := by decide +kernel
theorem dX5_isWanted_59 : decode cX5_isWanted 59 = .ok (.iload_n 3, 1) := by decide +kernel
theorem dX5_isWanted_60 : decode cX5_isWanted 60 = .ok (.if_icmp .eq 7, 3) := by decide +kernel
theorem dX5_isWanted_63 : decode cX5_isWanted 63 = .ok (.iconst 1, 1) := by decide +kernel
theorem dX5_isWanted_64 : decode cX5_isWanted 64 = .ok (.goto 20, 3) := by decide +kernel
theorem dX5_isWanted_67 : decode cX5_isWanted 67 = .ok (.iconst 0, 1) := by decide +kernel
theorem dX5_isWanted_68 : decode cX5_isWanted 68 = .ok (.goto 16, 3) := by decide +kernel
theorem dX5_isWanted_71 : decode cX5_isWanted 71 = .ok (.iload_n 2, 1) := by decide +kernel
theorem dX5_isWanted_72 : decode cX5_isWanted 72 = .ok (.ifCond .eq 11, 3) := by decide +kernel
theorem dX5_isWanted_75 : decode cX5_isWanted 75 = .ok (.iload_n 3, 1) := by decide +kernel
theorem dX5_isWanted_76 : decode cX5_isWanted 76 = .ok (.ifCond .ne 7, 3) := by decide +kernel
theorem dX5_isWanted_79 : decode cX5_isWanted 79 = .ok (.iconst 1, 1) := by decide +kernel
theorem dX5_isWanted_80 : decode cX5_isWanted 80 = .ok (.goto 4, 3) := by decide +kernel
theorem dX5_isWanted_83 : decode cX5_isWanted 83 = .ok (.iconst 0, 1) := by decide +kernel
theorem dX5_isWanted_84 : decode cX5_isWanted 84 = .ok (.ireturn, 1) := by decide +kernel
set_option maxRecDepth 20000 in
theorem ggX5_firstWantedLetter_X5_isWanted : GoodIn wsX5_firstWantedLetter wsX5_isWanted := goodIn_r _ [6, 7, 8, 9, 10, 11, 12, 13, 14, 15, 16, 17, 28, 29, 30, 31, 32, 33, 34, 35, 36, 37, 38, 39, 40, 41, 42, 43, 44] rfl (by decide +kernel)
set_option maxRecDepth 20000 in
theorem gX5_firstWantedLetter_X5_isWanted : GoodIn wsX5_firstWantedLetter (wsV RX5 91 RX5 yX5_isWanted wsX5_isWanted) := goodIn_app (goodIn_of _ (by decide +kernel)) ggX5_firstWantedLetter_X5_isWanted
set_option maxRecDepth 20000 in
theorem ggX5_firstWantedLetter_X5_letterOnWayTo : GoodIn wsX5_firstWantedLetter wsX5_letterOnWayTo := goodIn_r _ [21, 22, 23, 24, 25, 26, 5, 27, 28, 29, 30, 31, 32, 33, 34, 35, 36, 37, 38, 39, 40] rfl (by decide +kernel)
set_option maxRecDepth 20000 in
theorem gX5_firstWantedLetter_X5_letterOnWayTo : GoodIn wsX5_firstWantedLetter (wsV RX5 94 RX5 yX5_letterOnWayTo wsX5_letterOnWayTo) := goodIn_app (goodIn_of _ (by decide +kernel)) ggX5_firstWantedLetter_X5_letterOnWayTo
theorem dX5_firstWantedLetter_0 : decode cX5_firstWantedLetter 0 = .ok (.iconst 0, 1) := by decide +kernel
theorem dX5_firstWantedLetter_1 : decode cX5_firstWantedLetter 1 = .ok (.istore_n 2, 1) := by decide +kernel
theorem dX5_firstWantedLetter_2 : decode cX5_firstWantedLetter 2 = .ok (.iload_n 2, 1) := by decide +kernel
theorem dX5_firstWantedLetter_3 : decode cX5_firstWantedLetter 3 = .ok (.aload_n 0, 1) := by decide +kernel
theorem dX5_firstWantedLetter_4 : decode cX5_firstWantedLetter 4 = .ok (.getfield 41, 3) := by decide +kernel
theorem dX5_firstWantedLetter_7 : decode cX5_firstWantedLetter 7 = .ok (.if_icmp .ge 24, 3) := by decide +kernel
theorem dX5_firstWantedLetter_10 : decode cX5_firstWantedLetter 10 = .ok (.aload_n 0, 1) := by decide +kernel
theorem dX5_firstWantedLetter_11 : decode cX5_firstWantedLetter 11 = .ok (.iload_n 2, 1) := by decide +kernel
theorem dX5_firstWantedLetter_12 : decode cX5_firstWantedLetter 12 = .ok (.invokevirtual 91, 3) := by decide +kernel
theorem dX5_firstWantedLetter_15 : decode cX5_firstWantedLetter 15 = .ok (.ifCond .eq 10, 3) := by decide +kernel
theorem dX5_firstWantedLetter_18 : decode cX5_firstWantedLetter 18 = .ok (.aload_n 0, 1) := by decide +kernel
theorem dX5_firstWantedLetter_19 : decode cX5_firstWantedLetter 19 = .ok (.iload_n 2, 1) := by decide +kernel
theorem dX5_firstWantedLetter_20 : decode cX5_firstWantedLetter 20 = .ok (.iload_n 1, 1) := by decide +kernel
theorem dX5_firstWantedLetter_21 : decode cX5_firstWantedLetter 21 = .ok (.invokevirtual 94, 3) := by decide +kernel
theorem dX5_firstWantedLetter_24 : decode cX5_firstWantedLetter 24 = .ok (.ireturn, 1) := by decide +kernel
theorem dX5_firstWantedLetter_25 : decode cX5_firstWantedLetter 25 = .ok (.iinc 2 1, 3) := by decide +kernel
theorem dX5_firstWantedLetter_28 : decode cX5_firstWantedLetter 28 = .ok (.goto (-26), 3) := by decide +kernel
theorem dX5_firstWantedLetter_31 : decode cX5_firstWantedLetter 31 = .ok (.iconst (-1), 1) := by decide +kernel
theorem dX5_firstWantedLetter_32 : decode cX5_firstWantedLetter 32 = .ok (.ireturn, 1) := by decide +kernel
set_option maxRecDepth 20000 in
theorem ggX5_letterOnWayTo_X5_lengthOfWayTo : GoodIn wsX5_letterOnWayTo wsX5_lengthOfWayTo := goodIn_r _ [7, 1, 8, 9, 10, 11, 12, 13, 14, 15, 16, 17, 18, 19, 20] rfl (by decide +kernel)
set_option maxRecDepth 20000 in
theorem gX5_letterOnWayTo_X5_lengthOfWayTo : GoodIn wsX5_letterOnWayTo (wsV RX5 97 RX5 yX5_lengthOfWayTo wsX5_lengthOfWayTo) := goodIn_app (goodIn_of _ (by decide +kernel)) ggX5_letterOnWayTo_X5_lengthOfWayTo
theorem dX5_letterOnWayTo_0 : decode cX5_letterOnWayTo 0 = .ok (.aload_n 0, 1) := by decide +kernel
theorem dX5_letterOnWayTo_1 : decode cX5_letterOnWayTo 1 = .ok (.iload_n 1, 1) := by decide +kernel
theorem dX5_letterOnWayTo_2 : decode cX5_letterOnWayTo 2 = .ok (.invokevirtual 97, 3) := by decide +kernel
theorem dX5_letterOnWayTo_5 : decode cX5_letterOnWayTo 5 = .ok (.iconst 1, 1) := by decide +kernel
theorem dX5_letterOnWayTo_6 : decode cX5_letterOnWayTo 6 = .ok (.isub, 1) := by decide +kernel
theorem dX5_letterOnWayTo_7 : decode cX5_letterOnWayTo 7 = .ok (.iload_n 2, 1) := by decide +kernel
theorem dX5_letterOnWayTo_8 : decode cX5_letterOnWayTo 8 = .ok (.isub, 1) := by decide +kernel
theorem dX5_letterOnWayTo_9 : decode cX5_letterOnWayTo 9 = .ok (.istore_n 3, 1) := by decide +kernel
theorem dX5_letterOnWayTo_10 : decode cX5_letterOnWayTo 10 = .ok (.iload_n 3, 1) := by decide +kernel
theorem dX5_letterOnWayTo_11 : decode cX5_letterOnWayTo 11 = .ok (.ifCond .ge 6, 3) := by decide +kernel
theorem dX5_letterOnWayTo_14 : decode cX5_letterOnWayTo 14 = .ok (.bipush 8, 2) := by decide +kernel
theorem dX5_letterOnWayTo_16 : decode cX5_letterOnWayTo 16 = .ok (.ireturn, 1) := by decide +kernel
theorem dX5_letterOnWayTo_17 : decode cX5_letterOnWayTo 17 = .ok (.iload_n 1, 1) := by decide +kernel
theorem dX5_letterOnWayTo_18 : decode cX5_letterOnWayTo 18 = .ok (.istore 4, 2) := by decide +kernel
theorem dX5_letterOnWayTo_20 : decode cX5_letterOnWayTo 20 = .ok (.iconst 0, 1) := by decide +kernel
theorem dX5_letterOnWayTo_21 : decode cX5_letterOnWayTo 21 = .ok (.istore 5, 2) := by decide +kernel
theorem dX5_letterOnWayTo_23 : decode cX5_letterOnWayTo 23 = .ok (.iload 5, 2) := by decide +kernel
theorem dX5_letterOnWayTo_25 : decode cX5_letterOnWayTo 25 = .ok (.iload_n 3, 1) := by decide +kernel
theorem dX5_letterOnWayTo_26 : decode cX5_letterOnWayTo 26 = .ok (.if_icmp .ge 28, 3) := by decide +kernel
theorem dX5_letterOnWayTo_29 : decode cX5_letterOnWayTo 29 = .ok (.aload_n 0, 1) := by decide +kernel
theorem dX5_letterOnWayTo_30 : decode cX5_letterOnWayTo 30 = .ok (.getfield 35, 3) := by decide +kernel
theorem dX5_letterOnWayTo_33 : decode cX5_letterOnWayTo 33 = .ok (.iload 4, 2) := by decide +kernel
theorem dX5_letterOnWayTo_35 : decode cX5_letterOnWayTo 35 = .ok (.iaload, 1) := by decide +kernel
theorem dX5_letterOnWayTo_36 : decode cX5_letterOnWayTo 36 = .ok (.ifCond .lt 18, 3) := by decide +kernel
theorem dX5_letterOnWayTo_39 : decode cX5_letterOnWayTo 39 = .ok (.aload_n 0, 1) := by decide +kernel
theorem dX5_letterOnWayTo_40 : decode cX5_letterOnWayTo 40 = .ok (.getfield 35, 3) := by decide +kernel
theorem dX5_letterOnWayTo_43 : decode cX5_letterOnWayTo 43 = .ok (.iload 4, 2) := by decide +kernel
theorem dX5_letterOnWayTo_45 : decode cX5_letterOnWayTo 45 = .ok (.iaload, 1) := by decide +kernel
theorem dX5_letterOnWayTo_46 : decode cX5_letterOnWayTo 46 = .ok (.istore 4, 2) := by decide +kernel
theorem dX5_letterOnWayTo_48 : decode cX5_letterOnWayTo 48 = .ok (.iinc 5 1, 3) := by decide +kernel
theorem dX5_letterOnWayTo_51 : decode cX5_letterOnWayTo 51 = .ok (.goto (-28), 3) := by decide +kernel
theorem dX5_letterOnWayTo_54 : decode cX5_letterOnWayTo 54 = .ok (.aload_n 0, 1) := by decide +kernel
theorem dX5_letterOnWayTo_55 : decode cX5_letterOnWayTo 55 = .ok (.getfield 38, 3) := by decide +kernel
theorem dX5_letterOnWayTo_58 : decode cX5_letterOnWayTo 58 = .ok (.iload 4, 2) := by decide +kernel
theorem dX5_letterOnWayTo_60 : decode cX5_letterOnWayTo 60 = .ok (.iaload, 1) := by decide +kernel
theorem dX5_letterOnWayTo_61 : decode cX5_letterOnWayTo 61 = .ok (.ireturn, 1) := by decide +kernel
theorem dX5_lengthOfWayTo_0 : decode cX5_lengthOfWayTo 0 = .ok (.iload_n 1, 1) := by decide +kernel
theorem dX5_lengthOfWayTo_1 : decode cX5_lengthOfWayTo 1 = .ok (.istore_n 2, 1) := by decide +kernel
theorem dX5_lengthOfWayTo_2 : decode cX5_lengthOfWayTo 2 = .ok (.iconst 0, 1) := by decide +kernel
theorem dX5_lengthOfWayTo_3 : decode cX5_lengthOfWayTo 3 = .ok (.istore_n 3, 1) := by decide +kernel
theorem dX5_lengthOfWayTo_4 : decode cX5_lengthOfWayTo 4 = .ok (.aload_n 0, 1) := by decide +kernel
theorem dX5_lengthOfWayTo_5 : decode cX5_lengthOfWayTo 5 = .ok (.getfield 35, 3) := by decide +kernel
theorem dX5_lengthOfWayTo_8 : decode cX5_lengthOfWayTo 8 = .ok (.iload_n 2, 1) := by decide +kernel
theorem dX5_lengthOfWayTo_9 : decode cX5_lengthOfWayTo 9 = .ok (.iaload, 1) := by decide +kernel
theorem dX5_lengthOfWayTo_10 : decode cX5_lengthOfWayTo 10 = .ok (.ifCond .lt 23, 3) := by decide +kernel
theorem dX5_lengthOfWayTo_13 : decode cX5_lengthOfWayTo 13 = .ok (.iload_n 3, 1) := by decide +kernel
theorem dX5_lengthOfWayTo_14 : decode cX5_lengthOfWayTo 14 = .ok (.sipush 200, 3) := by decide +kernel
theorem dX5_lengthOfWayTo_17 : decode cX5_lengthOfWayTo 17 = .ok (.if_icmp .ge 16, 3) := by decide +kernel
theorem dX5_lengthOfWayTo_20 : decode cX5_lengthOfWayTo 20 = .ok (.aload_n 0, 1) := by decide +kernel
theorem dX5_lengthOfWayTo_21 : decode cX5_lengthOfWayTo 21 = .ok (.getfield 35, 3) := by decide +kernel
theorem dX5_lengthOfWayTo_24 : decode cX5_lengthOfWayTo 24 = .ok (.iload_n 2, 1) := by decide +kernel
theorem dX5_lengthOfWayTo_25 : decode cX5_lengthOfWayTo 25 = .ok (.iaload, 1) := by decide +kernel
theorem dX5_lengthOfWayTo_26 : decode cX5_lengthOfWayTo 26 = .ok (.istore_n 2, 1) := by decide +kernel
theorem dX5_lengthOfWayTo_27 : decode cX5_lengthOfWayTo 27 = .ok (.iinc 3 1, 3) := by decide +kernel
theorem dX5_lengthOfWayTo_30 : decode cX5_lengthOfWayTo 30 = .ok (.goto (-26), 3) := by decide +kernel
theorem dX5_lengthOfWayTo_33 : decode cX5_lengthOfWayTo 33 = .ok (.iload_n 3, 1) := by decide +kernel
theorem dX5_lengthOfWayTo_34 : decode cX5_lengthOfWayTo 34 = .ok (.ireturn, 1) := by decide +kernel
set_option maxRecDepth 20000 in
theorem ggX5_draw_X5_markUseful : GoodIn wsX5_draw wsX5_markUseful := goodIn_r _ [7, 8, 1, 9, 10, 11, 6, 12, 13, 14, 15, 16, 17, 18, 19, 20, 21, 22, 23, 24, 25, 26, 27, 28, 81, 82, 83, 84, 85, 86, 87, 88, 89, 90, 91, 92, 93, 94, 95, 96, 97] rfl (by decide +kernel)
set_option maxRecDepth 20000 in
theorem gX5_draw_X5_markUseful : GoodIn wsX5_draw (wsV RX5 101 RX5 yX5_markUseful wsX5_markUseful) := goodIn_app (goodIn_of _ (by decide +kernel)) ggX5_draw_X5_markUseful
set_option maxRecDepth 20000 in
theorem ggX5_draw_X1_begin : GoodIn wsX5_draw wsX1_begin := goodIn_r _ [33, 34, 35, 36, 37, 38, 39, 40, 41, 98, 99, 100, 101, 102, 103, 104, 105, 106, 107, 108, 109, 110] rfl (by decide +kernel)
set_option maxRecDepth 20000 in
theorem gX5_draw_X1_begin : GoodIn wsX5_draw (wsV RX5 104 RX1 yX1_begin wsX1_begin) := goodIn_app (goodIn_of _ (by decide +kernel)) ggX5_draw_X1_begin
set_option maxRecDepth 20000 in
theorem ggX5_draw_X5_groupAlike : GoodIn wsX5_draw wsX5_groupAlike := goodIn_r _ [45, 8, 2, 1, 9, 10, 11, 6, 12, 13, 14, 15, 16, 17, 18, 19, 20, 21, 22, 23, 46, 47, 48, 49, 50, 51, 52, 53, 54, 55, 56, 57, 58, 59, 60, 61, 62, 63, 28, 81, 82, 83, 84, 85, 86, 87, 88, 89, 90, 91, 92, 93, 94, 95, 96, 97] rfl (by decide +kernel)
set_option maxRecDepth 20000 in
theorem gX5_draw_X5_groupAlike : GoodIn wsX5_draw (wsV RX5 110 RX5 yX5_groupAlike wsX5_groupAlike) := goodIn_app (goodIn_of _ (by decide +kernel)) ggX5_draw_X5_groupAlike
set_option maxRecDepth 20000 in
theorem ggX5_draw_X5_drawGroup : GoodIn wsX5_draw wsX5_drawGroup := goodIn_r _ [67, 51, 9, 10, 11, 6, 12, 13, 14, 15, 16, 17, 18, 19, 20, 21, 22, 23, 68, 69, 70, 32, 71, 38, 41, 60, 61, 62, 63, 28, 2, 72, 73, 74, 75, 40, 76, 77, 78, 79, 80, 81, 82, 83, 84, 85, 86, 87, 88, 89, 90, 91, 92, 93, 94, 95, 96, 97, 98, 99, 100, 101, 102, 103, 104, 105, 106, 107, 108, 109, 110] rfl (by decide +kernel)
set_option maxRecDepth 20000 in
theorem gX5_draw_X5_drawGroup : GoodIn wsX5_draw (wsV RX5 113 RX5 yX5_drawGroup wsX5_drawGroup) := goodIn_app (goodIn_of _ (by decide +kernel)) ggX5_draw_X5_drawGroup
theorem dX5_draw_0 : decode cX5_draw 0 = .ok (.aload_n 0, 1) := by decide +kernel
theorem dX5_draw_1 : decode cX5_draw 1 = .ok (.invokevirtual 101, 3) := by decide +kernel
theorem dX5_draw_4 : decode cX5_draw 4 = .ok (.aload_n 0, 1) := by decide +kernel
theorem dX5_draw_5 : decode cX5_draw 5 = .ok (.getfield 44, 3) := by decide +kernel
theorem dX5_draw_8 : decode cX5_draw 8 = .ok (.iconst 0, 1) := by decide +kernel
theorem dX5_draw_9 : decode cX5_draw 9 = .ok (.baload, 1) := by decide +kernel
theorem dX5_draw_10 : decode cX5_draw 10 = .ok (.ifCond .ne 11, 3) := by decide +kernel
theorem dX5_draw_13 : decode cX5_draw 13 = .ok (.aload_n 1, 1) := by decide +kernel
theorem dX5_draw_14 : decode cX5_draw 14 = .ok (.iconst 1, 1) := by decide +kernel
theorem dX5_draw_15 : decode cX5_draw 15 = .ok (.iconst 0, 1) := by decide +kernel
theorem dX5_draw_16 : decode cX5_draw 16 = .ok (.invokevirtual 104, 3) := by decide +kernel
theorem dX5_draw_19 : decode cX5_draw 19 = .ok (.iconst 1, 1) := by decide +kernel
theorem dX5_draw_20 : decode cX5_draw 20 = .ok (.ireturn, 1) := by decide +kernel
theorem dX5_draw_21 : decode cX5_draw 21 = .ok (.aload_n 0, 1) := by decide +kernel
theorem dX5_draw_22 : decode cX5_draw 22 = .ok (.invokevirtual 110, 3) := by decide +kernel
theorem dX5_draw_25 : decode cX5_draw 25 = .ok (.istore_n 2, 1) := by decide +kernel
theorem dX5_draw_26 : decode cX5_draw 26 = .ok (.iload_n 2, 1) := by decide +kernel
theorem dX5_draw_27 : decode cX5_draw 27 = .ok (.bipush 32, 2) := by decide +kernel
theorem dX5_draw_29 : decode cX5_draw 29 = .ok (.if_icmp .le 5, 3) := by decide +kernel
theorem dX5_draw_32 : decode cX5_draw 32 = .ok (.iconst 0, 1) := by decide +kernel
theorem dX5_draw_33 : decode cX5_draw 33 = .ok (.ireturn, 1) := by decide +kernel
theorem dX5_draw_34 : decode cX5_draw 34 = .ok (.aload_n 1, 1) := by decide +kernel
theorem dX5_draw_35 : decode cX5_draw 35 = .ok (.iload_n 2, 1) := by decide +kernel
theorem dX5_draw_36 : decode cX5_draw 36 = .ok (.aload_n 0, 1) := by decide +kernel
theorem dX5_draw_37 : decode cX5_draw 37 = .ok (.getfield 48, 3) := by decide +kernel
theorem dX5_draw_40 : decode cX5_draw 40 = .ok (.iconst 0, 1) := by decide +kernel
theorem dX5_draw_41 : decode cX5_draw 41 = .ok (.iaload, 1) := by decide +kernel
theorem dX5_draw_42 : decode cX5_draw 42 = .ok (.invokevirtual 104, 3) := by decide +kernel
theorem dX5_draw_45 : decode cX5_draw 45 = .ok (.iconst 0, 1) := by decide +kernel
theorem dX5_draw_46 : decode cX5_draw 46 = .ok (.istore_n 3, 1) := by decide +kernel
theorem dX5_draw_47 : decode cX5_draw 47 = .ok (.iload_n 3, 1) := by decide +kernel
theorem dX5_draw_48 : decode cX5_draw 48 = .ok (.iload_n 2, 1) := by decide +kernel
theorem dX5_draw_49 : decode cX5_draw 49 = .ok (.if_icmp .ge 15, 3) := by decide +kernel
theorem dX5_draw_52 : decode cX5_draw 52 = .ok (.aload_n 0, 1) := by decide +kernel
theorem dX5_draw_53 : decode cX5_draw 53 = .ok (.aload_n 1, 1) := by decide +kernel
theorem dX5_draw_54 : decode cX5_draw 54 = .ok (.iload_n 3, 1) := by decide +kernel
theorem dX5_draw_55 : decode cX5_draw 55 = .ok (.invokevirtual 113, 3) := by decide +kernel
theorem dX5_draw_58 : decode cX5_draw 58 = .ok (.iinc 3 1, 3) := by decide +kernel
theorem dX5_draw_61 : decode cX5_draw 61 = .ok (.goto (-14), 3) := by decide +kernel
theorem dX5_draw_64 : decode cX5_draw 64 = .ok (.iconst 1, 1) := by decide +kernel
theorem dX5_draw_65 : decode cX5_draw 65 = .ok (.ireturn, 1) := by decide +kernel
set_option maxRecDepth 20000 in
theorem ggX5_drawGroup_X5_isWanted : GoodIn wsX5_drawGroup wsX5_isWanted := goodIn_r _ [6, 7, 8, 9, 10, 11, 12, 13, 14, 15, 16, 17, 41, 42, 43, 44, 45, 46, 47, 48, 49, 50, 51, 52, 53, 54, 55, 56, 57] rfl (by decide +kernel)
set_option maxRecDepth 20000 in
theorem gX5_drawGroup_X5_isWanted : GoodIn wsX5_drawGroup (wsV RX5 91 RX5 yX5_isWanted wsX5_isWanted) := goodIn_app (goodIn_of _ (by decide +kernel)) ggX5_drawGroup_X5_isWanted
set_option maxRecDepth 20000 in
theorem ggX5_drawGroup_X1_addEnd : GoodIn wsX5_drawGroup wsX1_addEnd := goodIn_r _ [22, 23, 24, 58, 59, 60, 61, 62, 63, 64, 65, 66, 67, 68, 69, 70] rfl (by decide +kernel)
set_option maxRecDepth 20000 in
theorem gX5_drawGroup_X1_addEnd : GoodIn wsX5_drawGroup (wsV RX5 117 RX1 yX1_addEnd wsX1_addEnd) := goodIn_app (goodIn_of _ (by decide +kernel)) ggX5_drawGroup_X1_addEnd
set_option maxRecDepth 20000 in
theorem ggX5_drawGroup_X5_groupBehind : GoodIn wsX5_drawGroup wsX5_groupBehind := goodIn_r _ [28, 29, 30, 41, 42, 43, 44, 45, 46, 47, 48, 49, 50, 51, 52, 53] rfl (by decide +kernel)
set_option maxRecDepth 20000 in
theorem gX5_drawGroup_X5_groupBehind : GoodIn wsX5_drawGroup (wsV RX5 121 RX5 yX5_groupBehind wsX5_groupBehind) := goodIn_app (goodIn_of _ (by decide +kernel)) ggX5_drawGroup_X5_groupBehind
set_option maxRecDepth 20000 in
theorem ggX5_drawGroup_X1_addArc : GoodIn wsX5_drawGroup wsX1_addArc := goodIn_r _ [34, 35, 23, 36, 37, 38, 39, 40, 58, 59, 60, 61, 62, 63, 64, 65, 66, 67, 68, 69, 70] rfl (by decide +kernel)
set_option maxRecDepth 20000 in
theorem gX5_drawGroup_X1_addArc : GoodIn wsX5_drawGroup (wsV RX5 124 RX1 yX1_addArc wsX1_addArc) := goodIn_app (goodIn_of _ (by decide +kernel)) ggX5_drawGroup_X1_addArc
theorem dX5_drawGroup_0 : decode cX5_drawGroup 0 = .ok (.aload_n 0, 1) := by decide +kernel
theorem dX5_drawGroup_1 : decode cX5_drawGroup 1 = .ok (.getfield 54, 3) := by decide +kernel
theorem dX5_drawGroup_4 : decode cX5_drawGroup 4 = .ok (.iload_n 2, 1) := by decide +kernel
theorem dX5_drawGroup_5 : decode cX5_drawGroup 5 = .ok (.iaload, 1) := by decide +kernel
theorem dX5_drawGroup_6 : decode cX5_drawGroup 6 = .ok (.istore_n 3, 1) := by decide +kernel
theorem dX5_drawGroup_7 : decode cX5_drawGroup 7 = .ok (.aload_n 0, 1) := by decide +kernel
theorem dX5_drawGroup_8 : decode cX5_drawGroup 8 = .ok (.iload_n 3, 1) := by decide +kernel
theorem dX5_drawGroup_9 : decode cX5_drawGroup 9 = .ok (.invokevirtual 91, 3) := by decide +kernel
theorem dX5_drawGroup_12 : decode cX5_drawGroup 12 = .ok (.ifCond .eq 8, 3) := by decide +kernel
theorem dX5_drawGroup_15 : decode cX5_drawGroup 15 = .ok (.aload_n 1, 1) := by decide +kernel
theorem dX5_drawGroup_16 : decode cX5_drawGroup 16 = .ok (.iload_n 2, 1) := by decide +kernel
theorem dX5_drawGroup_17 : decode cX5_drawGroup 17 = .ok (.invokevirtual 117, 3) := by decide +kernel
theorem dX5_drawGroup_20 : decode cX5_drawGroup 20 = .ok (.iconst 0, 1) := by decide +kernel
theorem dX5_drawGroup_21 : decode cX5_drawGroup 21 = .ok (.istore 4, 2) := by decide +kernel
theorem dX5_drawGroup_23 : decode cX5_drawGroup 23 = .ok (.iload 4, 2) := by decide +kernel
theorem dX5_drawGroup_25 : decode cX5_drawGroup 25 = .ok (.bipush 8, 2) := by decide +kernel
theorem dX5_drawGroup_27 : decode cX5_drawGroup 27 = .ok (.if_icmp .ge 36, 3) := by decide +kernel
theorem dX5_drawGroup_30 : decode cX5_drawGroup 30 = .ok (.aload_n 0, 1) := by decide +kernel
theorem dX5_drawGroup_31 : decode cX5_drawGroup 31 = .ok (.iload_n 3, 1) := by decide +kernel
theorem dX5_drawGroup_32 : decode cX5_drawGroup 32 = .ok (.iload 4, 2) := by decide +kernel
theorem dX5_drawGroup_34 : decode cX5_drawGroup 34 = .ok (.invokevirtual 121, 3) := by decide +kernel
theorem dX5_drawGroup_37 : decode cX5_drawGroup 37 = .ok (.istore 5, 2) := by decide +kernel
theorem dX5_drawGroup_39 : decode cX5_drawGroup 39 = .ok (.iload 5, 2) := by decide +kernel
theorem dX5_drawGroup_41 : decode cX5_drawGroup 41 = .ok (.iconst (-1), 1) := by decide +kernel
theorem dX5_drawGroup_42 : decode cX5_drawGroup 42 = .ok (.if_icmp .eq 15, 3) := by decide +kernel
theorem dX5_drawGroup_45 : decode cX5_drawGroup 45 = .ok (.aload_n 1, 1) := by decide +kernel
theorem dX5_drawGroup_46 : decode cX5_drawGroup 46 = .ok (.iload_n 2, 1) := by decide +kernel
theorem dX5_drawGroup_47 : decode cX5_drawGroup 47 = .ok (.iload 4, 2) := by decide +kernel
theorem dX5_drawGroup_49 : decode cX5_drawGroup 49 = .ok (.iload 4, 2) := by decide +kernel
theorem dX5_drawGroup_51 : decode cX5_drawGroup 51 = .ok (.iconst 0, 1) := by decide +kernel
theorem dX5_drawGroup_52 : decode cX5_drawGroup 52 = .ok (.iload 5, 2) := by decide +kernel
theorem dX5_drawGroup_54 : decode cX5_drawGroup 54 = .ok (.invokevirtual 124, 3) := by decide +kernel
theorem dX5_drawGroup_57 : decode cX5_drawGroup 57 = .ok (.iinc 4 1, 3) := by decide +kernel
theorem dX5_drawGroup_60 : decode cX5_drawGroup 60 = .ok (.goto (-37), 3) := by decide +kernel
theorem dX5_drawGroup_63 : decode cX5_drawGroup 63 = .ok (.return_, 1) := by decide +kernel
set_option maxRecDepth 20000 in
theorem ggX5_markUseful_X5_isWanted : GoodIn wsX5_markUseful wsX5_isWanted := goodIn_r _ [7, 8, 9, 10, 11, 12, 13, 14, 15, 16, 17, 18, 24, 25, 26, 27, 28, 29, 30, 31, 32, 33, 34, 35, 36, 37, 38, 39, 40] rfl (by decide +kernel)
set_option maxRecDepth 20000 in
theorem gX5_markUseful_X5_isWanted : GoodIn wsX5_markUseful (wsV RX5 91 RX5 yX5_isWanted wsX5_isWanted) := goodIn_app (goodIn_of _ (by decide +kernel)) ggX5_markUseful_X5_isWanted
set_option maxRecDepth 20000 in
theorem ggX5_markUseful_X5_leadsToUseful : GoodIn wsX5_markUseful wsX5_leadsToUseful := goodIn_r _ [22, 23, 2, 24, 25, 26, 27, 28, 29, 30, 31, 32, 33, 34, 35, 36] rfl (by decide +kernel)
set_option maxRecDepth 20000 in
theorem gX5_markUseful_X5_leadsToUseful : GoodIn wsX5_markUseful (wsV RX5 128 RX5 yX5_leadsToUseful wsX5_leadsToUseful) := goodIn_app (goodIn_of _ (by decide +kernel)) ggX5_markUseful_X5_leadsToUseful
theorem dX5_markUseful_0 : decode cX5_markUseful 0 = .ok (.iconst 0, 1) := by decide +kernel
theorem dX5_markUseful_1 : decode cX5_markUseful 1 = .ok (.istore_n 1, 1) := by decide +kernel
theorem dX5_markUseful_2 : decode cX5_markUseful 2 = .ok (.iload_n 1, 1) := by decide +kernel
theorem dX5_markUseful_3 : decode cX5_markUseful 3 = .ok (.aload_n 0, 1) := by decide +kernel
theorem dX5_markUseful_4 : decode cX5_markUseful 4 = .ok (.getfield 41, 3) := by decide +kernel
theorem dX5_markUseful_7 : decode cX5_markUseful 7 = .ok (.if_icmp .ge 20, 3) := by decide +kernel
theorem dX5_markUseful_10 : decode cX5_markUseful 10 = .ok (.aload_n 0, 1) := by decide +kernel
theorem dX5_markUseful_11 : decode cX5_markUseful 11 = .ok (.getfield 44, 3) := by decide +kernel
theorem dX5_markUseful_14 : decode cX5_markUseful 14 = .ok (.iload_n 1, 1) := by decide +kernel
theorem dX5_markUseful_15 : decode cX5_markUseful 15 = .ok (.aload_n 0, 1) := by decide +kernel
theorem dX5_markUseful_16 : decode cX5_markUseful 16 = .ok (.iload_n 1, 1) := by decide +kernel
theorem dX5_markUseful_17 : decode cX5_markUseful 17 = .ok (.invokevirtual 91, 3) := by decide +kernel
theorem dX5_markUseful_20 : decode cX5_markUseful 20 = .ok (.bastore, 1) := by decide +kernel
theorem dX5_markUseful_21 : decode cX5_markUseful 21 = .ok (.iinc 1 1, 3) := by decide +kernel
theorem dX5_markUseful_24 : decode cX5_markUseful 24 = .ok (.goto (-22), 3) := by decide +kernel
theorem dX5_markUseful_27 : decode cX5_markUseful 27 = .ok (.iconst 1, 1) := by decide +kernel
theorem dX5_markUseful_28 : decode cX5_markUseful 28 = .ok (.istore_n 1, 1) := by decide +kernel
theorem dX5_markUseful_29 : decode cX5_markUseful 29 = .ok (.iconst 0, 1) := by decide +kernel
theorem dX5_markUseful_30 : decode cX5_markUseful 30 = .ok (.istore_n 2, 1) := by decide +kernel
theorem dX5_markUseful_31 : decode cX5_markUseful 31 = .ok (.iload_n 1, 1) := by decide +kernel
theorem dX5_markUseful_32 : decode cX5_markUseful 32 = .ok (.ifCond .eq 62, 3) := by decide +kernel
theorem dX5_markUseful_35 : decode cX5_markUseful 35 = .ok (.iload_n 2, 1) := by decide +kernel
theorem dX5_markUseful_36 : decode cX5_markUseful 36 = .ok (.aload_n 0, 1) := by decide +kernel
theorem dX5_markUseful_37 : decode cX5_markUseful 37 = .ok (.getfield 41, 3) := by decide +kernel
theorem dX5_markUseful_40 : decode cX5_markUseful 40 = .ok (.if_icmp .ge 54, 3) := by decide +kernel
theorem dX5_markUseful_43 : decode cX5_markUseful 43 = .ok (.iconst 0, 1) := by decide +kernel
theorem dX5_markUseful_44 : decode cX5_markUseful 44 = .ok (.istore_n 1, 1) := by decide +kernel
theorem dX5_markUseful_45 : decode cX5_markUseful 45 = .ok (.aload_n 0, 1) := by decide +kernel
theorem dX5_markUseful_46 : decode cX5_markUseful 46 = .ok (.getfield 41, 3) := by decide +kernel
theorem dX5_markUseful_49 : decode cX5_markUseful 49 = .ok (.iconst 1, 1) := by decide +kernel
theorem dX5_markUseful_50 : decode cX5_markUseful 50 = .ok (.isub, 1) := by decide +kernel
theorem dX5_markUseful_51 : decode cX5_markUseful 51 = .ok (.istore_n 3, 1) := by decide +kernel
theorem dX5_markUseful_52 : decode cX5_markUseful 52 = .ok (.iload_n 3, 1) := by decide +kernel
theorem dX5_markUseful_53 : decode cX5_markUseful 53 = .ok (.ifCond .lt 35, 3) := by decide +kernel
theorem dX5_markUseful_56 : decode cX5_markUseful 56 = .ok (.aload_n 0, 1) := by decide +kernel
theorem dX5_markUseful_57 : decode cX5_markUseful 57 = .ok (.getfield 44, 3) := by decide +kernel
theorem dX5_markUseful_60 : decode cX5_markUseful 60 = .ok (.iload_n 3, 1) := by decide +kernel
theorem dX5_markUseful_61 : decode cX5_markUseful 61 = .ok (.baload, 1) := by decide +kernel
theorem dX5_markUseful_62 : decode cX5_markUseful 62 = .ok (.ifCond .ne 20, 3) := by decide +kernel
theorem dX5_markUseful_65 : decode cX5_markUseful 65 = .ok (.aload_n 0, 1) := by decide +kernel
theorem dX5_markUseful_66 : decode cX5_markUseful 66 = .ok (.iload_n 3, 1) := by decide +kernel
theorem dX5_markUseful_67 : decode cX5_markUseful 67 = .ok (.invokevirtual 128, 3) := by decide +kernel
theorem dX5_markUseful_70 : decode cX5_markUseful 70 = .ok (.ifCond .eq 12, 3) := by decide +kernel
theorem dX5_markUseful_73 : decode cX5_markUseful 73 = .ok (.aload_n 0, 1) := by decide +kernel
theorem dX5_markUseful_74 : decode cX5_markUseful 74 = .ok (.getfield 44, 3) := by decide +kernel
theorem dX5_markUseful_77 : decode cX5_markUseful 77 = .ok (.iload_n 3, 1) := by decide +kernel
theorem dX5_markUseful_78 : decode cX5_markUseful 78 = .ok (.iconst 1, 1) := by decide +kernel
theorem dX5_markUseful_79 : decode cX5_markUseful 79 = .ok (.bastore, 1) := by decide +kernel
theorem dX5_markUseful_80 : decode cX5_markUseful 80 = .ok (.iconst 1, 1) := by decide +kernel
theorem dX5_markUseful_81 : decode cX5_markUseful 81 = .ok (.istore_n 1, 1) := by decide +kernel
theorem dX5_markUseful_82 : decode cX5_markUseful 82 = .ok (.iinc 3 (-1), 3) := by decide +kernel
theorem dX5_markUseful_85 : decode cX5_markUseful 85 = .ok (.goto (-33), 3) := by decide +kernel
theorem dX5_markUseful_88 : decode cX5_markUseful 88 = .ok (.iinc 2 1, 3) := by decide +kernel
theorem dX5_markUseful_91 : decode cX5_markUseful 91 = .ok (.goto (-60), 3) := by decide +kernel
theorem dX5_markUseful_94 : decode cX5_markUseful 94 = .ok (.return_, 1) := by decide +kernel
theorem dX5_leadsToUseful_0 : decode cX5_leadsToUseful 0 = .ok (.iconst 0, 1) := by decide +kernel
theorem dX5_leadsToUseful_1 : decode cX5_leadsToUseful 1 = .ok (.istore_n 2, 1) := by decide +kernel
theorem dX5_leadsToUseful_2 : decode cX5_leadsToUseful 2 = .ok (.iload_n 2, 1) := by decide +kernel
theorem dX5_leadsToUseful_3 : decode cX5_leadsToUseful 3 = .ok (.bipush 8, 2) := by decide +kernel
theorem dX5_leadsToUseful_5 : decode cX5_leadsToUseful 5 = .ok (.if_icmp .ge 36, 3) := by decide +kernel
theorem dX5_leadsToUseful_8 : decode cX5_leadsToUseful 8 = .ok (.aload_n 0, 1) := by decide +kernel
theorem dX5_leadsToUseful_9 : decode cX5_leadsToUseful 9 = .ok (.getfield 32, 3) := by decide +kernel
theorem dX5_leadsToUseful_12 : decode cX5_leadsToUseful 12 = .ok (.iload_n 1, 1) := by decide +kernel
theorem dX5_leadsToUseful_13 : decode cX5_leadsToUseful 13 = .ok (.bipush 8, 2) := by decide +kernel
theorem dX5_leadsToUseful_15 : decode cX5_leadsToUseful 15 = .ok (.imul, 1) := by decide +kernel
theorem dX5_leadsToUseful_16 : decode cX5_leadsToUseful 16 = .ok (.iload_n 2, 1) := by decide +kernel
theorem dX5_leadsToUseful_17 : decode cX5_leadsToUseful 17 = .ok (.iadd, 1) := by decide +kernel
theorem dX5_leadsToUseful_18 : decode cX5_leadsToUseful 18 = .ok (.iaload, 1) := by decide +kernel
theorem dX5_leadsToUseful_19 : decode cX5_leadsToUseful 19 = .ok (.istore_n 3, 1) := by decide +kernel
theorem dX5_leadsToUseful_20 : decode cX5_leadsToUseful 20 = .ok (.iload_n 3, 1) := by decide +kernel
theorem dX5_leadsToUseful_21 : decode cX5_leadsToUseful 21 = .ok (.ifCond .lt 14, 3) := by decide +kernel
theorem dX5_leadsToUseful_24 : decode cX5_leadsToUseful 24 = .ok (.aload_n 0, 1) := by decide +kernel
theorem dX5_leadsToUseful_25 : decode cX5_leadsToUseful 25 = .ok (.getfield 44, 3) := by decide +kernel
theorem dX5_leadsToUseful_28 : decode cX5_leadsToUseful 28 = .ok (.iload_n 3, 1) := by decide +kernel
theorem dX5_leadsToUseful_29 : decode cX5_leadsToUseful 29 = .ok (.baload, 1) := by decide +kernel
theorem dX5_leadsToUseful_30 : decode cX5_leadsToUseful 30 = .ok (.ifCond .eq 5, 3) := by decide +kernel
theorem dX5_leadsToUseful_33 : decode cX5_leadsToUseful 33 = .ok (.iconst 1, 1) := by decide +kernel
theorem dX5_leadsToUseful_34 : decode cX5_leadsToUseful 34 = .ok (.ireturn, 1) := by decide +kernel
theorem dX5_leadsToUseful_35 : decode cX5_leadsToUseful 35 = .ok (.iinc 2 1, 3) := by decide +kernel
theorem dX5_leadsToUseful_38 : decode cX5_leadsToUseful 38 = .ok (.goto (-36), 3) := by decide +kernel
theorem dX5_leadsToUseful_41 : decode cX5_leadsToUseful 41 = .ok (.iconst 0, 1) := by decide +kernel
theorem dX5_leadsToUseful_42 : decode cX5_leadsToUseful 42 = .ok (.ireturn, 1) := by decide +kernel
set_option maxRecDepth 20000 in
theorem ggX5_groupAlike_X5_isWanted : GoodIn wsX5_groupAlike wsX5_isWanted := goodIn_r _ [8, 9, 10, 11, 12, 13, 14, 15, 16, 17, 18, 19, 39, 40, 41, 42, 43, 44, 45, 46, 47, 48, 49, 50, 51, 52, 53, 54, 55] rfl (by decide +kernel)
set_option maxRecDepth 20000 in
theorem gX5_groupAlike_X5_isWanted : GoodIn wsX5_groupAlike (wsV RX5 91 RX5 yX5_isWanted wsX5_isWanted) := goodIn_app (goodIn_of _ (by decide +kernel)) ggX5_groupAlike_X5_isWanted
set_option maxRecDepth 20000 in
theorem ggX5_groupAlike_X5_splitGroups : GoodIn wsX5_groupAlike wsX5_splitGroups := goodIn_r _ [23, 1, 24, 3, 25, 2, 26, 27, 28, 7, 29, 30, 31, 32, 33, 34, 35, 36, 37, 38, 39, 40, 41, 42, 43, 44, 45, 46, 47, 48, 49, 50, 51] rfl (by decide +kernel)
set_option maxRecDepth 20000 in
theorem gX5_groupAlike_X5_splitGroups : GoodIn wsX5_groupAlike (wsV RX5 131 RX5 yX5_splitGroups wsX5_splitGroups) := goodIn_app (goodIn_of _ (by decide +kernel)) ggX5_groupAlike_X5_splitGroups
theorem dX5_groupAlike_0 : decode cX5_groupAlike 0 = .ok (.iconst 0, 1) := by decide +kernel
theorem dX5_groupAlike_1 : decode cX5_groupAlike 1 = .ok (.istore_n 1, 1) := by decide +kernel
theorem dX5_groupAlike_2 : decode cX5_groupAlike 2 = .ok (.iload_n 1, 1) := by decide +kernel
theorem dX5_groupAlike_3 : decode cX5_groupAlike 3 = .ok (.aload_n 0, 1) := by decide +kernel
theorem dX5_groupAlike_4 : decode cX5_groupAlike 4 = .ok (.getfield 41, 3) := by decide +kernel
theorem dX5_groupAlike_7 : decode cX5_groupAlike 7 = .ok (.if_icmp .ge 41, 3) := by decide +kernel
theorem dX5_groupAlike_10 : decode cX5_groupAlike 10 = .ok (.aload_n 0, 1) := by decide +kernel
theorem dX5_groupAlike_11 : decode cX5_groupAlike 11 = .ok (.getfield 48, 3) := by decide +kernel
theorem dX5_groupAlike_14 : decode cX5_groupAlike 14 = .ok (.iload_n 1, 1) := by decide +kernel
theorem dX5_groupAlike_15 : decode cX5_groupAlike 15 = .ok (.aload_n 0, 1) := by decide +kernel
theorem dX5_groupAlike_16 : decode cX5_groupAlike 16 = .ok (.getfield 44, 3) := by decide +kernel
theorem dX5_groupAlike_19 : decode cX5_groupAlike 19 = .ok (.iload_n 1, 1) := by decide +kernel
theorem dX5_groupAlike_20 : decode cX5_groupAlike 20 = .ok (.baload, 1) := by decide +kernel
theorem dX5_groupAlike_21 : decode cX5_groupAlike 21 = .ok (.ifCond .ne 7, 3) := by decide +kernel
theorem dX5_groupAlike_24 : decode cX5_groupAlike 24 = .ok (.iconst (-1), 1) := by decide +kernel
theorem dX5_groupAlike_25 : decode cX5_groupAlike 25 = .ok (.goto 16, 3) := by decide +kernel
theorem dX5_groupAlike_28 : decode cX5_groupAlike 28 = .ok (.aload_n 0, 1) := by decide +kernel
theorem dX5_groupAlike_29 : decode cX5_groupAlike 29 = .ok (.iload_n 1, 1) := by decide +kernel
theorem dX5_groupAlike_30 : decode cX5_groupAlike 30 = .ok (.invokevirtual 91, 3) := by decide +kernel
theorem dX5_groupAlike_33 : decode cX5_groupAlike 33 = .ok (.ifCond .eq 7, 3) := by decide +kernel
theorem dX5_groupAlike_36 : decode cX5_groupAlike 36 = .ok (.iconst 1, 1) := by decide +kernel
theorem dX5_groupAlike_37 : decode cX5_groupAlike 37 = .ok (.goto 4, 3) := by decide +kernel
theorem dX5_groupAlike_40 : decode cX5_groupAlike 40 = .ok (.iconst 0, 1) := by decide +kernel
theorem dX5_groupAlike_41 : decode cX5_groupAlike 41 = .ok (.iastore, 1) := by decide +kernel
theorem dX5_groupAlike_42 : decode cX5_groupAlike 42 = .ok (.iinc 1 1, 3) := by decide +kernel
theorem dX5_groupAlike_45 : decode cX5_groupAlike 45 = .ok (.goto (-43), 3) := by decide +kernel
theorem dX5_groupAlike_48 : decode cX5_groupAlike 48 = .ok (.iconst 0, 1) := by decide +kernel
theorem dX5_groupAlike_49 : decode cX5_groupAlike 49 = .ok (.istore_n 1, 1) := by decide +kernel
theorem dX5_groupAlike_50 : decode cX5_groupAlike 50 = .ok (.iconst 0, 1) := by decide +kernel
theorem dX5_groupAlike_51 : decode cX5_groupAlike 51 = .ok (.istore_n 2, 1) := by decide +kernel
theorem dX5_groupAlike_52 : decode cX5_groupAlike 52 = .ok (.iload_n 2, 1) := by decide +kernel
theorem dX5_groupAlike_53 : decode cX5_groupAlike 53 = .ok (.bipush 33, 2) := by decide +kernel
theorem dX5_groupAlike_55 : decode cX5_groupAlike 55 = .ok (.if_icmp .gt 29, 3) := by decide +kernel
theorem dX5_groupAlike_58 : decode cX5_groupAlike 58 = .ok (.aload_n 0, 1) := by decide +kernel
theorem dX5_groupAlike_59 : decode cX5_groupAlike 59 = .ok (.invokevirtual 131, 3) := by decide +kernel
theorem dX5_groupAlike_62 : decode cX5_groupAlike 62 = .ok (.istore_n 3, 1) := by decide +kernel
theorem dX5_groupAlike_63 : decode cX5_groupAlike 63 = .ok (.iload_n 3, 1) := by decide +kernel
theorem dX5_groupAlike_64 : decode cX5_groupAlike 64 = .ok (.iload_n 1, 1) := by decide +kernel
theorem dX5_groupAlike_65 : decode cX5_groupAlike 65 = .ok (.if_icmp .eq 9, 3) := by decide +kernel
theorem dX5_groupAlike_68 : decode cX5_groupAlike 68 = .ok (.iload_n 3, 1) := by decide +kernel
theorem dX5_groupAlike_69 : decode cX5_groupAlike 69 = .ok (.bipush 32, 2) := by decide +kernel
theorem dX5_groupAlike_71 : decode cX5_groupAlike 71 = .ok (.if_icmp .le 5, 3) := by decide +kernel
theorem dX5_groupAlike_74 : decode cX5_groupAlike 74 = .ok (.iload_n 3, 1) := by decide +kernel
theorem dX5_groupAlike_75 : decode cX5_groupAlike 75 = .ok (.ireturn, 1) := by decide +kernel
theorem dX5_groupAlike_76 : decode cX5_groupAlike 76 = .ok (.iload_n 3, 1) := by decide +kernel
theorem dX5_groupAlike_77 : decode cX5_groupAlike 77 = .ok (.istore_n 1, 1) := by decide +kernel
theorem dX5_groupAlike_78 : decode cX5_groupAlike 78 = .ok (.iinc 2 1, 3) := by decide +kernel
theorem dX5_groupAlike_81 : decode cX5_groupAlike 81 = .ok (.goto (-29), 3) := by decide +kernel
theorem dX5_groupAlike_84 : decode cX5_groupAlike 84 = .ok (.iload_n 1, 1) := by decide +kernel
theorem dX5_groupAlike_85 : decode cX5_groupAlike 85 = .ok (.ireturn, 1) := by decide +kernel
set_option maxRecDepth 20000 in
theorem ggX5_splitGroups_X5_groupLike : GoodIn wsX5_splitGroups wsX5_groupLike := goodIn_r _ [10, 4, 11, 12, 13, 9, 14, 5, 15, 16, 17, 18, 19, 20, 21, 22, 23, 24, 25, 26, 27, 28, 29, 30, 31, 32] rfl (by decide +kernel)
set_option maxRecDepth 20000 in
theorem gX5_splitGroups_X5_groupLike : GoodIn wsX5_splitGroups (wsV RX5 134 RX5 yX5_groupLike wsX5_groupLike) := goodIn_app (goodIn_of _ (by decide +kernel)) ggX5_splitGroups_X5_groupLike
theorem dX5_splitGroups_0 : decode cX5_splitGroups 0 = .ok (.iconst 0, 1) := by decide +kernel
theorem dX5_splitGroups_1 : decode cX5_splitGroups 1 = .ok (.istore_n 1, 1) := by decide +kernel
theorem dX5_splitGroups_2 : decode cX5_splitGroups 2 = .ok (.iconst 0, 1) := by decide +kernel
theorem dX5_splitGroups_3 : decode cX5_splitGroups 3 = .ok (.istore_n 2, 1) := by decide +kernel
theorem dX5_splitGroups_4 : decode cX5_splitGroups 4 = .ok (.iload_n 2, 1) := by decide +kernel
theorem dX5_splitGroups_5 : decode cX5_splitGroups 5 = .ok (.aload_n 0, 1) := by decide +kernel
theorem dX5_splitGroups_6 : decode cX5_splitGroups 6 = .ok (.getfield 41, 3) := by decide +kernel
theorem dX5_splitGroups_9 : decode cX5_splitGroups 9 = .ok (.if_icmp .ge 63, 3) := by decide +kernel
theorem dX5_splitGroups_12 : decode cX5_splitGroups 12 = .ok (.aload_n 0, 1) := by decide +kernel
theorem dX5_splitGroups_13 : decode cX5_splitGroups 13 = .ok (.getfield 51, 3) := by decide +kernel
theorem dX5_splitGroups_16 : decode cX5_splitGroups 16 = .ok (.iload_n 2, 1) := by decide +kernel
theorem dX5_splitGroups_17 : decode cX5_splitGroups 17 = .ok (.iconst (-1), 1) := by decide +kernel
theorem dX5_splitGroups_18 : decode cX5_splitGroups 18 = .ok (.iastore, 1) := by decide +kernel
theorem dX5_splitGroups_19 : decode cX5_splitGroups 19 = .ok (.aload_n 0, 1) := by decide +kernel
theorem dX5_splitGroups_20 : decode cX5_splitGroups 20 = .ok (.getfield 44, 3) := by decide +kernel
theorem dX5_splitGroups_23 : decode cX5_splitGroups 23 = .ok (.iload_n 2, 1) := by decide +kernel
theorem dX5_splitGroups_24 : decode cX5_splitGroups 24 = .ok (.baload, 1) := by decide +kernel
theorem dX5_splitGroups_25 : decode cX5_splitGroups 25 = .ok (.ifCond .eq 41, 3) := by decide +kernel
theorem dX5_splitGroups_28 : decode cX5_splitGroups 28 = .ok (.aload_n 0, 1) := by decide +kernel
theorem dX5_splitGroups_29 : decode cX5_splitGroups 29 = .ok (.iload_n 2, 1) := by decide +kernel
theorem dX5_splitGroups_30 : decode cX5_splitGroups 30 = .ok (.iload_n 1, 1) := by decide +kernel
theorem dX5_splitGroups_31 : decode cX5_splitGroups 31 = .ok (.invokevirtual 134, 3) := by decide +kernel
theorem dX5_splitGroups_34 : decode cX5_splitGroups 34 = .ok (.istore_n 3, 1) := by decide +kernel
theorem dX5_splitGroups_35 : decode cX5_splitGroups 35 = .ok (.iload_n 3, 1) := by decide +kernel
theorem dX5_splitGroups_36 : decode cX5_splitGroups 36 = .ok (.iload_n 1, 1) := by decide +kernel
theorem dX5_splitGroups_37 : decode cX5_splitGroups 37 = .ok (.if_icmp .ne 22, 3) := by decide +kernel
theorem dX5_splitGroups_40 : decode cX5_splitGroups 40 = .ok (.iload_n 1, 1) := by decide +kernel
theorem dX5_splitGroups_41 : decode cX5_splitGroups 41 = .ok (.bipush 32, 2) := by decide +kernel
theorem dX5_splitGroups_43 : decode cX5_splitGroups 43 = .ok (.if_icmp .lt 6, 3) := by decide +kernel
theorem dX5_splitGroups_46 : decode cX5_splitGroups 46 = .ok (.bipush 33, 2) := by decide +kernel
theorem dX5_splitGroups_48 : decode cX5_splitGroups 48 = .ok (.ireturn, 1) := by decide +kernel
theorem dX5_splitGroups_49 : decode cX5_splitGroups 49 = .ok (.aload_n 0, 1) := by decide +kernel
theorem dX5_splitGroups_50 : decode cX5_splitGroups 50 = .ok (.getfield 54, 3) := by decide +kernel
theorem dX5_splitGroups_53 : decode cX5_splitGroups 53 = .ok (.iload_n 1, 1) := by decide +kernel
theorem dX5_splitGroups_54 : decode cX5_splitGroups 54 = .ok (.iload_n 2, 1) := by decide +kernel
theorem dX5_splitGroups_55 : decode cX5_splitGroups 55 = .ok (.iastore, 1) := by decide +kernel
theorem dX5_splitGroups_56 : decode cX5_splitGroups 56 = .ok (.iinc 1 1, 3) := by decide +kernel
theorem dX5_splitGroups_59 : decode cX5_splitGroups 59 = .ok (.aload_n 0, 1) := by decide +kernel
theorem dX5_splitGroups_60 : decode cX5_splitGroups 60 = .ok (.getfield 51, 3) := by decide +kernel
theorem dX5_splitGroups_63 : decode cX5_splitGroups 63 = .ok (.iload_n 2, 1) := by decide +kernel
theorem dX5_splitGroups_64 : decode cX5_splitGroups 64 = .ok (.iload_n 3, 1) := by decide +kernel
theorem dX5_splitGroups_65 : decode cX5_splitGroups 65 = .ok (.iastore, 1) := by decide +kernel
theorem dX5_splitGroups_66 : decode cX5_splitGroups 66 = .ok (.iinc 2 1, 3) := by decide +kernel
theorem dX5_splitGroups_69 : decode cX5_splitGroups 69 = .ok (.goto (-65), 3) := by decide +kernel
theorem dX5_splitGroups_72 : decode cX5_splitGroups 72 = .ok (.aload_n 0, 1) := by decide +kernel
theorem dX5_splitGroups_73 : decode cX5_splitGroups 73 = .ok (.getfield 48, 3) := by decide +kernel
theorem dX5_splitGroups_76 : decode cX5_splitGroups 76 = .ok (.astore_n 2, 1) := by decide +kernel
theorem dX5_splitGroups_77 : decode cX5_splitGroups 77 = .ok (.aload_n 0, 1) := by decide +kernel
theorem dX5_splitGroups_78 : decode cX5_splitGroups 78 = .ok (.aload_n 0, 1) := by decide +kernel
theorem dX5_splitGroups_79 : decode cX5_splitGroups 79 = .ok (.getfield 51, 3) := by decide +kernel
theorem dX5_splitGroups_82 : decode cX5_splitGroups 82 = .ok (.putfield 48, 3) := by decide +kernel
theorem dX5_splitGroups_85 : decode cX5_splitGroups 85 = .ok (.aload_n 0, 1) := by decide +kernel
theorem dX5_splitGroups_86 : decode cX5_splitGroups 86 = .ok (.aload_n 2, 1) := by decide +kernel
theorem dX5_splitGroups_87 : decode cX5_splitGroups 87 = .ok (.putfield 51, 3) := by decide +kernel
theorem dX5_splitGroups_90 : decode cX5_splitGroups 90 = .ok (.iload_n 1, 1) := by decide +kernel
theorem dX5_splitGroups_91 : decode cX5_splitGroups 91 = .ok (.ireturn, 1) := by decide +kernel
set_option maxRecDepth 20000 in
theorem ggX5_groupLike_X5_areAlike : GoodIn wsX5_groupLike wsX5_areAlike := goodIn_r _ [6, 7, 8, 9, 10, 5, 11, 12, 13, 14, 15, 16, 17, 18, 19, 20, 21, 22, 23, 24, 25] rfl (by decide +kernel)
set_option maxRecDepth 20000 in
theorem gX5_groupLike_X5_areAlike : GoodIn wsX5_groupLike (wsV RX5 137 RX5 yX5_areAlike wsX5_areAlike) := goodIn_app (goodIn_of _ (by decide +kernel)) ggX5_groupLike_X5_areAlike
theorem dX5_groupLike_0 : decode cX5_groupLike 0 = .ok (.iconst 0, 1) := by decide +kernel
theorem dX5_groupLike_1 : decode cX5_groupLike 1 = .ok (.istore_n 3, 1) := by decide +kernel
theorem dX5_groupLike_2 : decode cX5_groupLike 2 = .ok (.iload_n 3, 1) := by decide +kernel
theorem dX5_groupLike_3 : decode cX5_groupLike 3 = .ok (.iload_n 2, 1) := by decide +kernel
theorem dX5_groupLike_4 : decode cX5_groupLike 4 = .ok (.if_icmp .ge 25, 3) := by decide +kernel
theorem dX5_groupLike_7 : decode cX5_groupLike 7 = .ok (.aload_n 0, 1) := by decide +kernel
theorem dX5_groupLike_8 : decode cX5_groupLike 8 = .ok (.aload_n 0, 1) := by decide +kernel
theorem dX5_groupLike_9 : decode cX5_groupLike 9 = .ok (.getfield 54, 3) := by decide +kernel
theorem dX5_groupLike_12 : decode cX5_groupLike 12 = .ok (.iload_n 3, 1) := by decide +kernel
theorem dX5_groupLike_13 : decode cX5_groupLike 13 = .ok (.iaload, 1) := by decide +kernel
theorem dX5_groupLike_14 : decode cX5_groupLike 14 = .ok (.iload_n 1, 1) := by decide +kernel
theorem dX5_groupLike_15 : decode cX5_groupLike 15 = .ok (.invokevirtual 137, 3) := by decide +kernel
theorem dX5_groupLike_18 : decode cX5_groupLike 18 = .ok (.ifCond .eq 5, 3) := by decide +kernel
theorem dX5_groupLike_21 : decode cX5_groupLike 21 = .ok (.iload_n 3, 1) := by decide +kernel
theorem dX5_groupLike_22 : decode cX5_groupLike 22 = .ok (.ireturn, 1) := by decide +kernel
theorem dX5_groupLike_23 : decode cX5_groupLike 23 = .ok (.iinc 3 1, 3) := by decide +kernel
theorem dX5_groupLike_26 : decode cX5_groupLike 26 = .ok (.goto (-24), 3) := by decide +kernel
theorem dX5_groupLike_29 : decode cX5_groupLike 29 = .ok (.iload_n 2, 1) := by decide +kernel
theorem dX5_groupLike_30 : decode cX5_groupLike 30 = .ok (.ireturn, 1) := by decide +kernel
set_option maxRecDepth 20000 in
theorem ggX5_areAlike_X5_groupBehind : GoodIn wsX5_areAlike wsX5_groupBehind := goodIn_r _ [6, 7, 1, 8, 9, 10, 11, 12, 13, 14, 15, 16, 17, 18, 19, 20] rfl (by decide +kernel)
set_option maxRecDepth 20000 in
theorem gX5_areAlike_X5_groupBehind : GoodIn wsX5_areAlike (wsV RX5 121 RX5 yX5_groupBehind wsX5_groupBehind) := goodIn_app (goodIn_of _ (by decide +kernel)) ggX5_areAlike_X5_groupBehind
theorem dX5_areAlike_0 : decode cX5_areAlike 0 = .ok (.aload_n 0, 1) := by decide +kernel
theorem dX5_areAlike_1 : decode cX5_areAlike 1 = .ok (.getfield 48, 3) := by decide +kernel
theorem dX5_areAlike_4 : decode cX5_areAlike 4 = .ok (.iload_n 1, 1) := by decide +kernel
theorem dX5_areAlike_5 : decode cX5_areAlike 5 = .ok (.iaload, 1) := by decide +kernel
theorem dX5_areAlike_6 : decode cX5_areAlike 6 = .ok (.aload_n 0, 1) := by decide +kernel
theorem dX5_areAlike_7 : decode cX5_areAlike 7 = .ok (.getfield 48, 3) := by decide +kernel
theorem dX5_areAlike_10 : decode cX5_areAlike 10 = .ok (.iload_n 2, 1) := by decide +kernel
theorem dX5_areAlike_11 : decode cX5_areAlike 11 = .ok (.iaload, 1) := by decide +kernel
theorem dX5_areAlike_12 : decode cX5_areAlike 12 = .ok (.if_icmp .eq 5, 3) := by decide +kernel
theorem dX5_areAlike_15 : decode cX5_areAlike 15 = .ok (.iconst 0, 1) := by decide +kernel
theorem dX5_areAlike_16 : decode cX5_areAlike 16 = .ok (.ireturn, 1) := by decide +kernel
theorem dX5_areAlike_17 : decode cX5_areAlike 17 = .ok (.iconst 0, 1) := by decide +kernel
theorem dX5_areAlike_18 : decode cX5_areAlike 18 = .ok (.istore_n 3, 1) := by decide +kernel
theorem dX5_areAlike_19 : decode cX5_areAlike 19 = .ok (.iload_n 3, 1) := by decide +kernel
theorem dX5_areAlike_20 : decode cX5_areAlike 20 = .ok (.bipush 8, 2) := by decide +kernel
theorem dX5_areAlike_22 : decode cX5_areAlike 22 = .ok (.if_icmp .ge 26, 3) := by decide +kernel
theorem dX5_areAlike_25 : decode cX5_areAlike 25 = .ok (.aload_n 0, 1) := by decide +kernel
theorem dX5_areAlike_26 : decode cX5_areAlike 26 = .ok (.iload_n 1, 1) := by decide +kernel
theorem dX5_areAlike_27 : decode cX5_areAlike 27 = .ok (.iload_n 3, 1) := by decide +kernel
theorem dX5_areAlike_28 : decode cX5_areAlike 28 = .ok (.invokevirtual 121, 3) := by decide +kernel
theorem dX5_areAlike_31 : decode cX5_areAlike 31 = .ok (.aload_n 0, 1) := by decide +kernel
theorem dX5_areAlike_32 : decode cX5_areAlike 32 = .ok (.iload_n 2, 1) := by decide +kernel
theorem dX5_areAlike_33 : decode cX5_areAlike 33 = .ok (.iload_n 3, 1) := by decide +kernel
theorem dX5_areAlike_34 : decode cX5_areAlike 34 = .ok (.invokevirtual 121, 3) := by decide +kernel
theorem dX5_areAlike_37 : decode cX5_areAlike 37 = .ok (.if_icmp .eq 5, 3) := by decide +kernel
theorem dX5_areAlike_40 : decode cX5_areAlike 40 = .ok (.iconst 0, 1) := by decide +kernel
theorem dX5_areAlike_41 : decode cX5_areAlike 41 = .ok (.ireturn, 1) := by decide +kernel
theorem dX5_areAlike_42 : decode cX5_areAlike 42 = .ok (.iinc 3 1, 3) := by decide +kernel
theorem dX5_areAlike_45 : decode cX5_areAlike 45 = .ok (.goto (-26), 3) := by decide +kernel
theorem dX5_areAlike_48 : decode cX5_areAlike 48 = .ok (.iconst 1, 1) := by decide +kernel
theorem dX5_areAlike_49 : decode cX5_areAlike 49 = .ok (.ireturn, 1) := by decide +kernel
theorem dX5_groupBehind_0 : decode cX5_groupBehind 0 = .ok (.aload_n 0, 1) := by decide +kernel
theorem dX5_groupBehind_1 : decode cX5_groupBehind 1 = .ok (.getfield 32, 3) := by decide +kernel
theorem dX5_groupBehind_4 : decode cX5_groupBehind 4 = .ok (.iload_n 1, 1) := by decide +kernel
theorem dX5_groupBehind_5 : decode cX5_groupBehind 5 = .ok (.bipush 8, 2) := by decide +kernel
theorem dX5_groupBehind_7 : decode cX5_groupBehind 7 = .ok (.imul, 1) := by decide +kernel
theorem dX5_groupBehind_8 : decode cX5_groupBehind 8 = .ok (.iload_n 2, 1) := by decide +kernel
theorem dX5_groupBehind_9 : decode cX5_groupBehind 9 = .ok (.iadd, 1) := by decide +kernel
theorem dX5_groupBehind_10 : decode cX5_groupBehind 10 = .ok (.iaload, 1) := by decide +kernel
theorem dX5_groupBehind_11 : decode cX5_groupBehind 11 = .ok (.istore_n 3, 1) := by decide +kernel
theorem dX5_groupBehind_12 : decode cX5_groupBehind 12 = .ok (.iload_n 3, 1) := by decide +kernel
theorem dX5_groupBehind_13 : decode cX5_groupBehind 13 = .ok (.ifCond .ge 7, 3) := by decide +kernel
theorem dX5_groupBehind_16 : decode cX5_groupBehind 16 = .ok (.iconst (-1), 1) := by decide +kernel
theorem dX5_groupBehind_17 : decode cX5_groupBehind 17 = .ok (.goto 9, 3) := by decide +kernel
theorem dX5_groupBehind_20 : decode cX5_groupBehind 20 = .ok (.aload_n 0, 1) := by decide +kernel
theorem dX5_groupBehind_21 : decode cX5_groupBehind 21 = .ok (.getfield 48, 3) := by decide +kernel
theorem dX5_groupBehind_24 : decode cX5_groupBehind 24 = .ok (.iload_n 3, 1) := by decide +kernel
theorem dX5_groupBehind_25 : decode cX5_groupBehind 25 = .ok (.iaload, 1) := by decide +kernel
theorem dX5_groupBehind_26 : decode cX5_groupBehind 26 = .ok (.ireturn, 1) := by decide +kernel
theorem dX6_init_0 : decode cX6_init 0 = .ok (.aload_n 0, 1) := by decide +kernel
theorem dX6_init_1 : decode cX6_init 1 = .ok (.invokespecial 3, 3) := by decide +kernel
theorem dX6_init_4 : decode cX6_init 4 = .ok (.aload_n 0, 1) := by decide +kernel
theorem dX6_init_5 : decode cX6_init 5 = .ok (.bipush 32, 2) := by decide +kernel
theorem dX6_init_7 : decode cX6_init 7 = .ok (.newarray .int, 2) := by decide +kernel
theorem dX6_init_9 : decode cX6_init 9 = .ok (.putfield 9, 3) := by decide +kernel
theorem dX6_init_12 : decode cX6_init 12 = .ok (.aload_n 0, 1) := by decide +kernel
theorem dX6_init_13 : decode cX6_init 13 = .ok (.sipush 256, 3) := by decide +kernel
theorem dX6_init_16 : decode cX6_init 16 = .ok (.newarray .int, 2) := by decide +kernel
theorem dX6_init_18 : decode cX6_init 18 = .ok (.putfield 15, 3) := by decide +kernel
theorem dX6_init_21 : decode cX6_init 21 = .ok (.aload_n 0, 1) := by decide +kernel
theorem dX6_init_22 : decode cX6_init 22 = .ok (.iconst 0, 1) := by decide +kernel
theorem dX6_init_23 : decode cX6_init 23 = .ok (.putfield 18, 3) := by decide +kernel
theorem dX6_init_26 : decode cX6_init 26 = .ok (.aload_n 0, 1) := by decide +kernel
theorem dX6_init_27 : decode cX6_init 27 = .ok (.iconst 0, 1) := by decide +kernel
theorem dX6_init_28 : decode cX6_init 28 = .ok (.putfield 22, 3) := by decide +kernel
theorem dX6_init_31 : decode cX6_init 31 = .ok (.return_, 1) := by decide +kernel
theorem dX6_takeNothing_0 : decode cX6_takeNothing 0 = .ok (.aload_n 0, 1) := by decide +kernel
theorem dX6_takeNothing_1 : decode cX6_takeNothing 1 = .ok (.iconst 0, 1) := by decide +kernel
theorem dX6_takeNothing_2 : decode cX6_takeNothing 2 = .ok (.putfield 18, 3) := by decide +kernel
theorem dX6_takeNothing_5 : decode cX6_takeNothing 5 = .ok (.aload_n 0, 1) := by decide +kernel
theorem dX6_takeNothing_6 : decode cX6_takeNothing 6 = .ok (.iconst 0, 1) := by decide +kernel
theorem dX6_takeNothing_7 : decode cX6_takeNothing 7 = .ok (.putfield 22, 3) := by decide +kernel
theorem dX6_takeNothing_10 : decode cX6_takeNothing 10 = .ok (.return_, 1) := by decide +kernel
set_option maxRecDepth 20000 in
theorem ggX6_take_X6_findClosures : GoodIn wsX6_take wsX6_findClosures := goodIn_r _ [14, 2, 9, 6, 7, 8, 15, 16, 17, 18, 19, 20, 21, 25, 26, 27, 28, 22, 23, 24, 29, 30, 31] rfl (by decide +kernel)
set_option maxRecDepth 20000 in
theorem gX6_take_X6_findClosures : GoodIn wsX6_take (wsV RX6 29 RX6 yX6_findClosures wsX6_findClosures) := goodIn_app (goodIn_of _ (by decide +kernel)) ggX6_take_X6_findClosures
set_option maxRecDepth 20000 in
theorem ggX6_take_X7_upperOf : GoodIn wsX6_take wsX7_upperOf := goodIn_r _ [21] rfl (by decide +kernel)
set_option maxRecDepth 20000 in
theorem gX6_take_X7_upperOf_n45 : GoodIn wsX6_take (wsX7_upperOf) := ggX6_take_X7_upperOf
set_option maxRecDepth 20000 in
theorem ggX6_take_X7_fromOf : GoodIn wsX6_take wsX7_fromOf := goodIn_r _ [17] rfl (by decide +kernel)
set_option maxRecDepth 20000 in
theorem gX6_take_X7_fromOf_n49 : GoodIn wsX6_take (wsX7_fromOf) := ggX6_take_X7_fromOf
set_option maxRecDepth 20000 in
theorem ggX6_take_X7_toOf : GoodIn wsX6_take wsX7_toOf := goodIn_r _ [19] rfl (by decide +kernel)
set_option maxRecDepth 20000 in
theorem gX6_take_X7_toOf_n52 : GoodIn wsX6_take (wsX7_toOf) := ggX6_take_X7_toOf
theorem dX6_take_0 : decode cX6_take 0 = .ok (.aload_n 0, 1) := by decide +kernel
theorem dX6_take_1 : decode cX6_take 1 = .ok (.aload_n 1, 1) := by decide +kernel
theorem dX6_take_2 : decode cX6_take 2 = .ok (.getfield 25, 3) := by decide +kernel
theorem dX6_take_5 : decode cX6_take 5 = .ok (.putfield 18, 3) := by decide +kernel
theorem dX6_take_8 : decode cX6_take 8 = .ok (.aload_n 0, 1) := by decide +kernel
theorem dX6_take_9 : decode cX6_take 9 = .ok (.aload_n 1, 1) := by decide +kernel
theorem dX6_take_10 : decode cX6_take 10 = .ok (.getfield 28, 3) := by decide +kernel
theorem dX6_take_13 : decode cX6_take 13 = .ok (.putfield 22, 3) := by decide +kernel
theorem dX6_take_16 : decode cX6_take 16 = .ok (.aload_n 0, 1) := by decide +kernel
theorem dX6_take_17 : decode cX6_take 17 = .ok (.aload_n 1, 1) := by decide +kernel
theorem dX6_take_18 : decode cX6_take 18 = .ok (.invokevirtual 29, 3) := by decide +kernel
theorem dX6_take_21 : decode cX6_take 21 = .ok (.iconst 0, 1) := by decide +kernel
theorem dX6_take_22 : decode cX6_take 22 = .ok (.istore_n 2, 1) := by decide +kernel
theorem dX6_take_23 : decode cX6_take 23 = .ok (.iload_n 2, 1) := by decide +kernel
theorem dX6_take_24 : decode cX6_take 24 = .ok (.aload_n 0, 1) := by decide +kernel
theorem dX6_take_25 : decode cX6_take 25 = .ok (.getfield 18, 3) := by decide +kernel
theorem dX6_take_28 : decode cX6_take 28 = .ok (.bipush 8, 2) := by decide +kernel
theorem dX6_take_30 : decode cX6_take 30 = .ok (.imul, 1) := by decide +kernel
theorem dX6_take_31 : decode cX6_take 31 = .ok (.if_icmp .ge 16, 3) := by decide +kernel
theorem dX6_take_34 : decode cX6_take 34 = .ok (.aload_n 0, 1) := by decide +kernel
theorem dX6_take_35 : decode cX6_take 35 = .ok (.getfield 15, 3) := by decide +kernel
theorem dX6_take_38 : decode cX6_take 38 = .ok (.iload_n 2, 1) := by decide +kernel
theorem dX6_take_39 : decode cX6_take 39 = .ok (.iconst 0, 1) := by decide +kernel
theorem dX6_take_40 : decode cX6_take 40 = .ok (.iastore, 1) := by decide +kernel
theorem dX6_take_41 : decode cX6_take 41 = .ok (.iinc 2 1, 3) := by decide +kernel
theorem dX6_take_44 : decode cX6_take 44 = .ok (.goto (-21), 3) := by decide +kernel
theorem dX6_take_47 : decode cX6_take 47 = .ok (.iconst 0, 1) := by decide +kernel
theorem dX6_take_48 : decode cX6_take 48 = .ok (.istore_n 2, 1) := by decide +kernel
theorem dX6_take_49 : decode cX6_take 49 = .ok (.iload_n 2, 1) := by decide +kernel
theorem dX6_take_50 : decode cX6_take 50 = .ok (.aload_n 1, 1) := by decide +kernel
theorem dX6_take_51 : decode cX6_take 51 = .ok (.getfield 33, 3) := by decide +kernel
theorem dX6_take_54 : decode cX6_take 54 = .ok (.getfield 37, 3) := by decide +kernel
theorem dX6_take_57 : decode cX6_take 57 = .ok (.if_icmp .ge 57, 3) := by decide +kernel
theorem dX6_take_60 : decode cX6_take 60 = .ok (.aload_n 1, 1) := by decide +kernel
theorem dX6_take_61 : decode cX6_take 61 = .ok (.getfield 33, 3) := by decide +kernel
theorem dX6_take_64 : decode cX6_take 64 = .ok (.getfield 42, 3) := by decide +kernel
theorem dX6_take_67 : decode cX6_take 67 = .ok (.iload_n 2, 1) := by decide +kernel
theorem dX6_take_68 : decode cX6_take 68 = .ok (.iaload, 1) := by decide +kernel
theorem dX6_take_69 : decode cX6_take 69 = .ok (.istore_n 3, 1) := by decide +kernel
theorem dX6_take_70 : decode cX6_take 70 = .ok (.iload_n 3, 1) := by decide +kernel
theorem dX6_take_71 : decode cX6_take 71 = .ok (.invokestatic 45, 3) := by decide +kernel
theorem dX6_take_74 : decode cX6_take 74 = .ok (.bipush 8, 2) := by decide +kernel
theorem dX6_take_76 : decode cX6_take 76 = .ok (.if_icmp .eq 32, 3) := by decide +kernel
theorem dX6_take_79 : decode cX6_take 79 = .ok (.aload_n 0, 1) := by decide +kernel
theorem dX6_take_80 : decode cX6_take 80 = .ok (.getfield 15, 3) := by decide +kernel
theorem dX6_take_83 : decode cX6_take 83 = .ok (.iload_n 3, 1) := by decide +kernel
theorem dX6_take_84 : decode cX6_take 84 = .ok (.invokestatic 49, 3) := by decide +kernel
theorem dX6_take_87 : decode cX6_take 87 = .ok (.bipush 8, 2) := by decide +kernel
theorem dX6_take_89 : decode cX6_take 89 = .ok (.imul, 1) := by decide +kernel
theorem dX6_take_90 : decode cX6_take 90 = .ok (.iload_n 3, 1) := by decide +kernel
theorem dX6_take_91 : decode cX6_take 91 = .ok (.invokestatic 45, 3) := by decide +kernel
theorem dX6_take_94 : decode cX6_take 94 = .ok (.iadd, 1) := by decide +kernel
theorem dX6_take_95 : decode cX6_take 95 = .ok (.dup2, 1) := by decide +kernel
theorem dX6_take_96 : decode cX6_take 96 = .ok (.iaload, 1) := by decide +kernel
theorem dX6_take_97 : decode cX6_take 97 = .ok (.aload_n 0, 1) := by decide +kernel
theorem dX6_take_98 : decode cX6_take 98 = .ok (.getfield 9, 3) := by decide +kernel
theorem dX6_take_101 : decode cX6_take 101 = .ok (.iload_n 3, 1) := by decide +kernel
theorem dX6_take_102 : decode cX6_take 102 = .ok (.invokestatic 52, 3) := by decide +kernel
theorem dX6_take_105 : decode cX6_take 105 = .ok (.iaload, 1) := by decide +kernel
theorem dX6_take_106 : decode cX6_take 106 = .ok (.ior, 1) := by decide +kernel
theorem dX6_take_107 : decode cX6_take 107 = .ok (.iastore, 1) := by decide +kernel
theorem dX6_take_108 : decode cX6_take 108 = .ok (.iinc 2 1, 3) := by decide +kernel
theorem dX6_take_111 : decode cX6_take 111 = .ok (.goto (-62), 3) := by decide +kernel
theorem dX6_take_114 : decode cX6_take 114 = .ok (.return_, 1) := by decide +kernel
set_option maxRecDepth 20000 in
theorem ggX6_findClosures_X7_fromOf : GoodIn wsX6_findClosures wsX7_fromOf := goodIn_r _ [8] rfl (by decide +kernel)
set_option maxRecDepth 20000 in
theorem gX6_findClosures_X7_fromOf_n49 : GoodIn wsX6_findClosures (wsX7_fromOf) := ggX6_findClosures_X7_fromOf
set_option maxRecDepth 20000 in
theorem ggX6_findClosures_X7_toOf : GoodIn wsX6_findClosures wsX7_toOf := goodIn_r _ [10] rfl (by decide +kernel)
set_option maxRecDepth 20000 in
theorem gX6_findClosures_X7_toOf_n52 : GoodIn wsX6_findClosures (wsX7_toOf) := ggX6_findClosures_X7_toOf
set_option maxRecDepth 20000 in
theorem ggX6_findClosures_X7_upperOf : GoodIn wsX6_findClosures wsX7_upperOf := goodIn_r _ [12] rfl (by decide +kernel)
set_option maxRecDepth 20000 in
theorem gX6_findClosures_X7_upperOf_n45 : GoodIn wsX6_findClosures (wsX7_upperOf) := ggX6_findClosures_X7_upperOf
theorem dX6_findClosures_0 : decode cX6_findClosures 0 = .ok (.iconst 0, 1) := by decide +kernel
theorem dX6_findClosures_1 : decode cX6_findClosures 1 = .ok (.istore_n 2, 1) := by decide +kernel
theorem dX6_findClosures_2 : decode cX6_findClosures 2 = .ok (.iload_n 2, 1) := by decide +kernel
theorem dX6_findClosures_3 : decode cX6_findClosures 3 = .ok (.aload_n 0, 1) := by decide +kernel
theorem dX6_findClosures_4 : decode cX6_findClosures 4 = .ok (.getfield 18, 3) := by decide +kernel
theorem dX6_findClosures_7 : decode cX6_findClosures 7 = .ok (.if_icmp .ge 18, 3) := by decide +kernel
theorem dX6_findClosures_10 : decode cX6_findClosures 10 = .ok (.aload_n 0, 1) := by decide +kernel
theorem dX6_findClosures_11 : decode cX6_findClosures 11 = .ok (.getfield 9, 3) := by decide +kernel
theorem dX6_findClosures_14 : decode cX6_findClosures 14 = .ok (.iload_n 2, 1) := by decide +kernel
theorem dX6_findClosures_15 : decode cX6_findClosures 15 = .ok (.iconst 1, 1) := by decide +kernel
theorem dX6_findClosures_16 : decode cX6_findClosures 16 = .ok (.iload_n 2, 1) := by decide +kernel
theorem dX6_findClosures_17 : decode cX6_findClosures 17 = .ok (.ishl, 1) := by decide +kernel
theorem dX6_findClosures_18 : decode cX6_findClosures 18 = .ok (.iastore, 1) := by decide +kernel
theorem dX6_findClosures_19 : decode cX6_findClosures 19 = .ok (.iinc 2 1, 3) := by decide +kernel
theorem dX6_findClosures_22 : decode cX6_findClosures 22 = .ok (.goto (-20), 3) := by decide +kernel
theorem dX6_findClosures_25 : decode cX6_findClosures 25 = .ok (.iconst 1, 1) := by decide +kernel
theorem dX6_findClosures_26 : decode cX6_findClosures 26 = .ok (.istore_n 2, 1) := by decide +kernel
theorem dX6_findClosures_27 : decode cX6_findClosures 27 = .ok (.iconst 0, 1) := by decide +kernel
theorem dX6_findClosures_28 : decode cX6_findClosures 28 = .ok (.istore_n 3, 1) := by decide +kernel
theorem dX6_findClosures_29 : decode cX6_findClosures 29 = .ok (.iload_n 2, 1) := by decide +kernel
theorem dX6_findClosures_30 : decode cX6_findClosures 30 = .ok (.ifCond .eq 114, 3) := by decide +kernel
theorem dX6_findClosures_33 : decode cX6_findClosures 33 = .ok (.iload_n 3, 1) := by decide +kernel
theorem dX6_findClosures_34 : decode cX6_findClosures 34 = .ok (.aload_n 0, 1) := by decide +kernel
theorem dX6_findClosures_35 : decode cX6_findClosures 35 = .ok (.getfield 18, 3) := by decide +kernel
theorem dX6_findClosures_38 : decode cX6_findClosures 38 = .ok (.if_icmp .ge 106, 3) := by decide +kernel
theorem dX6_findClosures_41 : decode cX6_findClosures 41 = .ok (.iconst 0, 1) := by decide +kernel
theorem dX6_findClosures_42 : decode cX6_findClosures 42 = .ok (.istore_n 2, 1) := by decide +kernel
theorem dX6_findClosures_43 : decode cX6_findClosures 43 = .ok (.iconst 0, 1) := by decide +kernel
theorem dX6_findClosures_44 : decode cX6_findClosures 44 = .ok (.istore 4, 2) := by decide +kernel
theorem dX6_findClosures_46 : decode cX6_findClosures 46 = .ok (.iload 4, 2) := by decide +kernel
theorem dX6_findClosures_48 : decode cX6_findClosures 48 = .ok (.aload_n 1, 1) := by decide +kernel
theorem dX6_findClosures_49 : decode cX6_findClosures 49 = .ok (.getfield 33, 3) := by decide +kernel
theorem dX6_findClosures_52 : decode cX6_findClosures 52 = .ok (.getfield 37, 3) := by decide +kernel
theorem dX6_findClosures_55 : decode cX6_findClosures 55 = .ok (.if_icmp .ge 83, 3) := by decide +kernel
theorem dX6_findClosures_58 : decode cX6_findClosures 58 = .ok (.aload_n 1, 1) := by decide +kernel
theorem dX6_findClosures_59 : decode cX6_findClosures 59 = .ok (.getfield 33, 3) := by decide +kernel
theorem dX6_findClosures_62 : decode cX6_findClosures 62 = .ok (.getfield 42, 3) := by decide +kernel
theorem dX6_findClosures_65 : decode cX6_findClosures 65 = .ok (.iload 4, 2) := by decide +kernel
theorem dX6_findClosures_67 : decode cX6_findClosures 67 = .ok (.iaload, 1) := by decide +kernel
theorem dX6_findClosures_68 : decode cX6_findClosures 68 = .ok (.istore 5, 2) := by decide +kernel
theorem dX6_findClosures_70 : decode cX6_findClosures 70 = .ok (.aload_n 0, 1) := by decide +kernel
theorem dX6_findClosures_71 : decode cX6_findClosures 71 = .ok (.getfield 9, 3) := by decide +kernel
theorem dX6_findClosures_74 : decode cX6_findClosures 74 = .ok (.iload 5, 2) := by decide +kernel
theorem dX6_findClosures_76 : decode cX6_findClosures 76 = .ok (.invokestatic 49, 3) := by decide +kernel
theorem dX6_findClosures_79 : decode cX6_findClosures 79 = .ok (.iaload, 1) := by decide +kernel
theorem dX6_findClosures_80 : decode cX6_findClosures 80 = .ok (.aload_n 0, 1) := by decide +kernel
theorem dX6_findClosures_81 : decode cX6_findClosures 81 = .ok (.getfield 9, 3) := by decide +kernel
theorem dX6_findClosures_84 : decode cX6_findClosures 84 = .ok (.iload 5, 2) := by decide +kernel
theorem dX6_findClosures_86 : decode cX6_findClosures 86 = .ok (.invokestatic 52, 3) := by decide +kernel
theorem dX6_findClosures_89 : decode cX6_findClosures 89 = .ok (.iaload, 1) := by decide +kernel
theorem dX6_findClosures_90 : decode cX6_findClosures 90 = .ok (.ior, 1) := by decide +kernel
theorem dX6_findClosures_91 : decode cX6_findClosures 91 = .ok (.istore 6, 2) := by decide +kernel
theorem dX6_findClosures_93 : decode cX6_findClosures 93 = .ok (.iload 5, 2) := by decide +kernel
theorem dX6_findClosures_95 : decode cX6_findClosures 95 = .ok (.invokestatic 45, 3) := by decide +kernel
theorem dX6_findClosures_98 : decode cX6_findClosures 98 = .ok (.bipush 8, 2) := by decide +kernel
theorem dX6_findClosures_100 : decode cX6_findClosures 100 = .ok (.if_icmp .ne 32, 3) := by decide +kernel
theorem dX6_findClosures_103 : decode cX6_findClosures 103 = .ok (.iload 6, 2) := by decide +kernel
theorem dX6_findClosures_105 : decode cX6_findClosures 105 = .ok (.aload_n 0, 1) := by decide +kernel
theorem dX6_findClosures_106 : decode cX6_findClosures 106 = .ok (.getfield 9, 3) := by decide +kernel
theorem dX6_findClosures_109 : decode cX6_findClosures 109 = .ok (.iload 5, 2) := by decide +kernel
theorem dX6_findClosures_111 : decode cX6_findClosures 111 = .ok (.invokestatic 49, 3) := by decide +kernel
theorem dX6_findClosures_114 : decode cX6_findClosures 114 = .ok (.iaload, 1) := by decide +kernel
theorem dX6_findClosures_115 : decode cX6_findClosures 115 = .ok (.if_icmp .eq 17, 3) := by decide +kernel
theorem dX6_findClosures_118 : decode cX6_findClosures 118 = .ok (.aload_n 0, 1) := by decide +kernel
theorem dX6_findClosures_119 : decode cX6_findClosures 119 = .ok (.getfield 9, 3) := by decide +kernel
theorem dX6_findClosures_122 : decode cX6_findClosures 122 = .ok (.iload 5, 2) := by decide +kernel
theorem dX6_findClosures_124 : decode cX6_findClosures 124 = .ok (.invokestatic 49, 3) := by decide +kernel
theorem dX6_findClosures_127 : decode cX6_findClosures 127 = .ok (.iload 6, 2) := by decide +kernel
theorem dX6_findClosures_129 : decode cX6_findClosures 129 = .ok (.iastore, 1) := by decide +kernel
theorem dX6_findClosures_130 : decode cX6_findClosures 130 = .ok (.iconst 1, 1) := by decide +kernel
theorem dX6_findClosures_131 : decode cX6_findClosures 131 = .ok (.istore_n 2, 1) := by decide +kernel
theorem dX6_findClosures_132 : decode cX6_findClosures 132 = .ok (.iinc 4 1, 3) := by decide +kernel
theorem dX6_findClosures_135 : decode cX6_findClosures 135 = .ok (.goto (-89), 3) := by decide +kernel
theorem dX6_findClosures_138 : decode cX6_findClosures 138 = .ok (.iinc 3 1, 3) := by decide +kernel
theorem dX6_findClosures_141 : decode cX6_findClosures 141 = .ok (.goto (-112), 3) := by decide +kernel
theorem dX6_findClosures_144 : decode cX6_findClosures 144 = .ok (.return_, 1) := by decide +kernel
theorem dX6_firstSet_0 : decode cX6_firstSet 0 = .ok (.aload_n 0, 1) := by decide +kernel
theorem dX6_firstSet_1 : decode cX6_firstSet 1 = .ok (.getfield 18, 3) := by decide +kernel
theorem dX6_firstSet_4 : decode cX6_firstSet 4 = .ok (.ifCond .ne 7, 3) := by decide +kernel
theorem dX6_firstSet_7 : decode cX6_firstSet 7 = .ok (.iconst 0, 1) := by decide +kernel
theorem dX6_firstSet_8 : decode cX6_firstSet 8 = .ok (.goto 9, 3) := by decide +kernel
theorem dX6_firstSet_11 : decode cX6_firstSet 11 = .ok (.aload_n 0, 1) := by decide +kernel
theorem dX6_firstSet_12 : decode cX6_firstSet 12 = .ok (.getfield 9, 3) := by decide +kernel
theorem dX6_firstSet_15 : decode cX6_firstSet 15 = .ok (.iconst 0, 1) := by decide +kernel
theorem dX6_firstSet_16 : decode cX6_firstSet 16 = .ok (.iaload, 1) := by decide +kernel
theorem dX6_firstSet_17 : decode cX6_firstSet 17 = .ok (.ireturn, 1) := by decide +kernel
set_option maxRecDepth 20000 in
theorem ggX6_setBehind_X7_holds : GoodIn wsX6_setBehind wsX7_holds := goodIn_r _ [5] rfl (by decide +kernel)
set_option maxRecDepth 20000 in
theorem gX6_setBehind_X7_holds_n55 : GoodIn wsX6_setBehind (wsX7_holds) := ggX6_setBehind_X7_holds
theorem dX6_setBehind_0 : decode cX6_setBehind 0 = .ok (.iconst 0, 1) := by decide +kernel
theorem dX6_setBehind_1 : decode cX6_setBehind 1 = .ok (.istore_n 3, 1) := by decide +kernel
theorem dX6_setBehind_2 : decode cX6_setBehind 2 = .ok (.iconst 0, 1) := by decide +kernel
theorem dX6_setBehind_3 : decode cX6_setBehind 3 = .ok (.istore 4, 2) := by decide +kernel
theorem dX6_setBehind_5 : decode cX6_setBehind 5 = .ok (.iload 4, 2) := by decide +kernel
theorem dX6_setBehind_7 : decode cX6_setBehind 7 = .ok (.aload_n 0, 1) := by decide +kernel
theorem dX6_setBehind_8 : decode cX6_setBehind 8 = .ok (.getfield 18, 3) := by decide +kernel
theorem dX6_setBehind_11 : decode cX6_setBehind 11 = .ok (.if_icmp .ge 33, 3) := by decide +kernel
theorem dX6_setBehind_14 : decode cX6_setBehind 14 = .ok (.iload_n 1, 1) := by decide +kernel
theorem dX6_setBehind_15 : decode cX6_setBehind 15 = .ok (.iload 4, 2) := by decide +kernel
theorem dX6_setBehind_17 : decode cX6_setBehind 17 = .ok (.invokestatic 55, 3) := by decide +kernel
theorem dX6_setBehind_20 : decode cX6_setBehind 20 = .ok (.ifCond .eq 18, 3) := by decide +kernel
theorem dX6_setBehind_23 : decode cX6_setBehind 23 = .ok (.iload_n 3, 1) := by decide +kernel
theorem dX6_setBehind_24 : decode cX6_setBehind 24 = .ok (.aload_n 0, 1) := by decide +kernel
theorem dX6_setBehind_25 : decode cX6_setBehind 25 = .ok (.getfield 15, 3) := by decide +kernel
theorem dX6_setBehind_28 : decode cX6_setBehind 28 = .ok (.iload 4, 2) := by decide +kernel
theorem dX6_setBehind_30 : decode cX6_setBehind 30 = .ok (.bipush 8, 2) := by decide +kernel
theorem dX6_setBehind_32 : decode cX6_setBehind 32 = .ok (.imul, 1) := by decide +kernel
theorem dX6_setBehind_33 : decode cX6_setBehind 33 = .ok (.iload_n 2, 1) := by decide +kernel
theorem dX6_setBehind_34 : decode cX6_setBehind 34 = .ok (.iadd, 1) := by decide +kernel
theorem dX6_setBehind_35 : decode cX6_setBehind 35 = .ok (.iaload, 1) := by decide +kernel
theorem dX6_setBehind_36 : decode cX6_setBehind 36 = .ok (.ior, 1) := by decide +kernel
theorem dX6_setBehind_37 : decode cX6_setBehind 37 = .ok (.istore_n 3, 1) := by decide +kernel
theorem dX6_setBehind_38 : decode cX6_setBehind 38 = .ok (.iinc 4 1, 3) := by decide +kernel
theorem dX6_setBehind_41 : decode cX6_setBehind 41 = .ok (.goto (-36), 3) := by decide +kernel
theorem dX6_setBehind_44 : decode cX6_setBehind 44 = .ok (.iload_n 3, 1) := by decide +kernel
theorem dX6_setBehind_45 : decode cX6_setBehind 45 = .ok (.ireturn, 1) := by decide +kernel
theorem dX6_hasEndIn_0 : decode cX6_hasEndIn 0 = .ok (.iload_n 1, 1) := by decide +kernel
theorem dX6_hasEndIn_1 : decode cX6_hasEndIn 1 = .ok (.aload_n 0, 1) := by decide +kernel
theorem dX6_hasEndIn_2 : decode cX6_hasEndIn 2 = .ok (.getfield 22, 3) := by decide +kernel
theorem dX6_hasEndIn_5 : decode cX6_hasEndIn 5 = .ok (.iand, 1) := by decide +kernel
theorem dX6_hasEndIn_6 : decode cX6_hasEndIn 6 = .ok (.ifCond .eq 7, 3) := by decide +kernel
theorem dX6_hasEndIn_9 : decode cX6_hasEndIn 9 = .ok (.iconst 1, 1) := by decide +kernel
theorem dX6_hasEndIn_10 : decode cX6_hasEndIn 10 = .ok (.goto 4, 3) := by decide +kernel
theorem dX6_hasEndIn_13 : decode cX6_hasEndIn 13 = .ok (.iconst 0, 1) := by decide +kernel
theorem dX6_hasEndIn_14 : decode cX6_hasEndIn 14 = .ok (.ireturn, 1) := by decide +kernel
set_option maxRecDepth 20000 in
theorem ggX7_init_X3_init : GoodIn wsX7_init wsX3_init := goodIn_r _ [29, 30, 2, 3, 31, 32, 33, 34, 35, 36, 37, 38, 39, 4, 40, 41, 42, 171, 172, 173, 122, 123, 124] rfl (by decide +kernel)
set_option maxRecDepth 20000 in
theorem gX7_init_X3_init_n23 : GoodIn wsX7_init (wsX3_init) := ggX7_init_X3_init
set_option maxRecDepth 20000 in
theorem ggX7_init_X1_init : GoodIn wsX7_init wsX1_init := goodIn_r _ [44, 45, 2, 3, 4, 46, 47, 48, 49, 50, 51, 52, 53, 54, 55, 56, 57, 58, 59, 32, 33, 60, 37, 38, 39, 40, 41, 42, 125, 126, 127, 128, 129, 130, 131, 132, 133, 134, 135, 136, 137, 171, 172, 173] rfl (by decide +kernel)
set_option maxRecDepth 20000 in
theorem gX7_init_X1_init_n29 : GoodIn wsX7_init (wsX1_init) := ggX7_init_X1_init
set_option maxRecDepth 20000 in
theorem ggX7_init_X5_init : GoodIn wsX7_init wsX5_init := goodIn_r _ [62, 63, 2, 3, 64, 65, 66, 67, 68, 69, 4, 70, 71, 72, 73, 74, 75, 48, 76, 77, 78, 79, 80, 81, 82, 83, 84, 85, 86, 174, 175, 176, 177, 138, 139, 140, 141, 142, 143, 144, 145, 146, 147, 148, 149, 150] rfl (by decide +kernel)
set_option maxRecDepth 20000 in
theorem gX7_init_X5_init_n36 : GoodIn wsX7_init (wsX5_init) := ggX7_init_X5_init
set_option maxRecDepth 20000 in
theorem ggX7_init_X4_init : GoodIn wsX7_init wsX4_init := goodIn_r _ [88, 89, 2, 3, 4, 90, 91, 92, 9, 10, 93, 94, 95, 96, 97, 98, 99, 100, 101, 102, 103, 104, 28, 29, 30, 31, 32, 33, 34, 35, 36, 37, 38, 39, 40, 41, 42, 151, 152, 153, 154, 155, 156, 157, 158, 159, 160, 161, 162, 163, 164, 122, 123, 124, 171, 172, 173] rfl (by decide +kernel)
set_option maxRecDepth 20000 in
theorem gX7_init_X4_init_n43 : GoodIn wsX7_init (wsX4_init) := ggX7_init_X4_init
set_option maxRecDepth 20000 in
theorem ggX7_init_X2_init : GoodIn wsX7_init wsX2_init := goodIn_r _ [106, 107, 2, 3, 4, 108, 109, 110, 111, 112, 113, 165, 166, 167, 168, 169, 170] rfl (by decide +kernel)
set_option maxRecDepth 20000 in
theorem gX7_init_X2_init_n50 : GoodIn wsX7_init (wsX2_init) := ggX7_init_X2_init
