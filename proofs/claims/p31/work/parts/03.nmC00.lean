theorem dX0_init_0 : decode cX0_init 0 = .ok (.aload_n 0, 1) := by decide +kernel
theorem dX0_init_1 : decode cX0_init 1 = .ok (.invokespecial 3, 3) := by decide +kernel
theorem dX0_init_4 : decode cX0_init 4 = .ok (.aload_n 0, 1) := by decide +kernel
theorem dX0_init_5 : decode cX0_init 5 = .ok (.sipush 160, 3) := by decide +kernel
theorem dX0_init_8 : decode cX0_init 8 = .ok (.newarray .int, 2) := by decide +kernel
theorem dX0_init_10 : decode cX0_init 10 = .ok (.putfield 9, 3) := by decide +kernel
theorem dX0_init_13 : decode cX0_init 13 = .ok (.aload_n 0, 1) := by decide +kernel
theorem dX0_init_14 : decode cX0_init 14 = .ok (.sipush 160, 3) := by decide +kernel
theorem dX0_init_17 : decode cX0_init 17 = .ok (.newarray .int, 2) := by decide +kernel
theorem dX0_init_19 : decode cX0_init 19 = .ok (.putfield 15, 3) := by decide +kernel
theorem dX0_init_22 : decode cX0_init 22 = .ok (.aload_n 0, 1) := by decide +kernel
theorem dX0_init_23 : decode cX0_init 23 = .ok (.iconst 0, 1) := by decide +kernel
theorem dX0_init_24 : decode cX0_init 24 = .ok (.putfield 18, 3) := by decide +kernel
theorem dX0_init_27 : decode cX0_init 27 = .ok (.return_, 1) := by decide +kernel
set_option maxRecDepth 20000 in
theorem ggX0_put_X0_placeOf : GoodIn wsX0_put wsX0_placeOf := goodIn_g _ [(16, 1), (1, 2), (17, 3)] (by exact rfl) (by decide +kernel)
set_option maxRecDepth 20000 in
theorem gX0_put_X0_placeOf : GoodIn wsX0_put (wsV RX0 22 RX0 yX0_placeOf wsX0_placeOf) := goodIn_app (goodIn_of _ (by decide +kernel)) ggX0_put_X0_placeOf
theorem dX0_put_0 : decode cX0_put 0 = .ok (.aload_n 0, 1) := by decide +kernel
theorem dX0_put_1 : decode cX0_put 1 = .ok (.iload_n 1, 1) := by decide +kernel
theorem dX0_put_2 : decode cX0_put 2 = .ok (.invokevirtual 22, 3) := by decide +kernel
theorem dX0_put_5 : decode cX0_put 5 = .ok (.istore_n 3, 1) := by decide +kernel
theorem dX0_put_6 : decode cX0_put 6 = .ok (.iload_n 3, 1) := by decide +kernel
theorem dX0_put_7 : decode cX0_put 7 = .ok (.aload_n 0, 1) := by decide +kernel
theorem dX0_put_8 : decode cX0_put 8 = .ok (.getfield 18, 3) := by decide +kernel
theorem dX0_put_11 : decode cX0_put 11 = .ok (.if_icmp .ge 31, 3) := by decide +kernel
theorem dX0_put_14 : decode cX0_put 14 = .ok (.aload_n 0, 1) := by decide +kernel
theorem dX0_put_15 : decode cX0_put 15 = .ok (.getfield 9, 3) := by decide +kernel
theorem dX0_put_18 : decode cX0_put 18 = .ok (.iload_n 3, 1) := by decide +kernel
theorem dX0_put_19 : decode cX0_put 19 = .ok (.iaload, 1) := by decide +kernel
theorem dX0_put_20 : decode cX0_put 20 = .ok (.iload_n 1, 1) := by decide +kernel
theorem dX0_put_21 : decode cX0_put 21 = .ok (.if_icmp .ne 21, 3) := by decide +kernel
theorem dX0_put_24 : decode cX0_put 24 = .ok (.aload_n 0, 1) := by decide +kernel
theorem dX0_put_25 : decode cX0_put 25 = .ok (.getfield 15, 3) := by decide +kernel
theorem dX0_put_28 : decode cX0_put 28 = .ok (.iload_n 3, 1) := by decide +kernel
theorem dX0_put_29 : decode cX0_put 29 = .ok (.aload_n 0, 1) := by decide +kernel
theorem dX0_put_30 : decode cX0_put 30 = .ok (.getfield 15, 3) := by decide +kernel
theorem dX0_put_33 : decode cX0_put 33 = .ok (.iload_n 3, 1) := by decide +kernel
theorem dX0_put_34 : decode cX0_put 34 = .ok (.iaload, 1) := by decide +kernel
theorem dX0_put_35 : decode cX0_put 35 = .ok (.iload_n 2, 1) := by decide +kernel
theorem dX0_put_36 : decode cX0_put 36 = .ok (.invokestatic 26, 3) := by decide +kernel
theorem dX0_put_39 : decode cX0_put 39 = .ok (.iastore, 1) := by decide +kernel
theorem dX0_put_40 : decode cX0_put 40 = .ok (.iconst 1, 1) := by decide +kernel
theorem dX0_put_41 : decode cX0_put 41 = .ok (.ireturn, 1) := by decide +kernel
theorem dX0_put_42 : decode cX0_put 42 = .ok (.aload_n 0, 1) := by decide +kernel
theorem dX0_put_43 : decode cX0_put 43 = .ok (.getfield 18, 3) := by decide +kernel
theorem dX0_put_46 : decode cX0_put 46 = .ok (.sipush 160, 3) := by decide +kernel
theorem dX0_put_49 : decode cX0_put 49 = .ok (.if_icmp .lt 5, 3) := by decide +kernel
theorem dX0_put_52 : decode cX0_put 52 = .ok (.iconst 0, 1) := by decide +kernel
theorem dX0_put_53 : decode cX0_put 53 = .ok (.ireturn, 1) := by decide +kernel
theorem dX0_put_54 : decode cX0_put 54 = .ok (.aload_n 0, 1) := by decide +kernel
theorem dX0_put_55 : decode cX0_put 55 = .ok (.getfield 9, 3) := by decide +kernel
theorem dX0_put_58 : decode cX0_put 58 = .ok (.iload_n 3, 1) := by decide +kernel
theorem dX0_put_59 : decode cX0_put 59 = .ok (.aload_n 0, 1) := by decide +kernel
theorem dX0_put_60 : decode cX0_put 60 = .ok (.getfield 9, 3) := by decide +kernel
theorem dX0_put_63 : decode cX0_put 63 = .ok (.iload_n 3, 1) := by decide +kernel
theorem dX0_put_64 : decode cX0_put 64 = .ok (.iconst 1, 1) := by decide +kernel
theorem dX0_put_65 : decode cX0_put 65 = .ok (.iadd, 1) := by decide +kernel
theorem dX0_put_66 : decode cX0_put 66 = .ok (.aload_n 0, 1) := by decide +kernel
theorem dX0_put_67 : decode cX0_put 67 = .ok (.getfield 18, 3) := by decide +kernel
theorem dX0_put_70 : decode cX0_put 70 = .ok (.iload_n 3, 1) := by decide +kernel
theorem dX0_put_71 : decode cX0_put 71 = .ok (.isub, 1) := by decide +kernel
theorem dX0_put_72 : decode cX0_put 72 = .ok (.invokestatic 32, 3) := by decide +kernel
theorem dX0_put_75 : decode cX0_put 75 = .ok (.aload_n 0, 1) := by decide +kernel
theorem dX0_put_76 : decode cX0_put 76 = .ok (.getfield 15, 3) := by decide +kernel
theorem dX0_put_79 : decode cX0_put 79 = .ok (.iload_n 3, 1) := by decide +kernel
theorem dX0_put_80 : decode cX0_put 80 = .ok (.aload_n 0, 1) := by decide +kernel
theorem dX0_put_81 : decode cX0_put 81 = .ok (.getfield 15, 3) := by decide +kernel
theorem dX0_put_84 : decode cX0_put 84 = .ok (.iload_n 3, 1) := by decide +kernel
theorem dX0_put_85 : decode cX0_put 85 = .ok (.iconst 1, 1) := by decide +kernel
theorem dX0_put_86 : decode cX0_put 86 = .ok (.iadd, 1) := by decide +kernel
theorem dX0_put_87 : decode cX0_put 87 = .ok (.aload_n 0, 1) := by decide +kernel
theorem dX0_put_88 : decode cX0_put 88 = .ok (.getfield 18, 3) := by decide +kernel
theorem dX0_put_91 : decode cX0_put 91 = .ok (.iload_n 3, 1) := by decide +kernel
theorem dX0_put_92 : decode cX0_put 92 = .ok (.isub, 1) := by decide +kernel
theorem dX0_put_93 : decode cX0_put 93 = .ok (.invokestatic 32, 3) := by decide +kernel
theorem dX0_put_96 : decode cX0_put 96 = .ok (.aload_n 0, 1) := by decide +kernel
theorem dX0_put_97 : decode cX0_put 97 = .ok (.getfield 9, 3) := by decide +kernel
theorem dX0_put_100 : decode cX0_put 100 = .ok (.iload_n 3, 1) := by decide +kernel
theorem dX0_put_101 : decode cX0_put 101 = .ok (.iload_n 1, 1) := by decide +kernel
theorem dX0_put_102 : decode cX0_put 102 = .ok (.iastore, 1) := by decide +kernel
theorem dX0_put_103 : decode cX0_put 103 = .ok (.aload_n 0, 1) := by decide +kernel
theorem dX0_put_104 : decode cX0_put 104 = .ok (.getfield 15, 3) := by decide +kernel
theorem dX0_put_107 : decode cX0_put 107 = .ok (.iload_n 3, 1) := by decide +kernel
theorem dX0_put_108 : decode cX0_put 108 = .ok (.iload_n 2, 1) := by decide +kernel
theorem dX0_put_109 : decode cX0_put 109 = .ok (.iastore, 1) := by decide +kernel
theorem dX0_put_110 : decode cX0_put 110 = .ok (.aload_n 0, 1) := by decide +kernel
theorem dX0_put_111 : decode cX0_put 111 = .ok (.dup, 1) := by decide +kernel
theorem dX0_put_112 : decode cX0_put 112 = .ok (.getfield 18, 3) := by decide +kernel
theorem dX0_put_115 : decode cX0_put 115 = .ok (.iconst 1, 1) := by decide +kernel
theorem dX0_put_116 : decode cX0_put 116 = .ok (.iadd, 1) := by decide +kernel
theorem dX0_put_117 : decode cX0_put 117 = .ok (.putfield 18, 3) := by decide +kernel
theorem dX0_put_120 : decode cX0_put 120 = .ok (.iconst 1, 1) := by decide +kernel
theorem dX0_put_121 : decode cX0_put 121 = .ok (.ireturn, 1) := by decide +kernel
theorem dX0_placeOf_0 : decode cX0_placeOf 0 = .ok (.iconst 0, 1) := by decide +kernel
theorem dX0_placeOf_1 : decode cX0_placeOf 1 = .ok (.istore_n 2, 1) := by decide +kernel
theorem dX0_placeOf_2 : decode cX0_placeOf 2 = .ok (.aload_n 0, 1) := by decide +kernel
theorem dX0_placeOf_3 : decode cX0_placeOf 3 = .ok (.getfield 18, 3) := by decide +kernel
theorem dX0_placeOf_6 : decode cX0_placeOf 6 = .ok (.istore_n 3, 1) := by decide +kernel
theorem dX0_placeOf_7 : decode cX0_placeOf 7 = .ok (.iconst 0, 1) := by decide +kernel
theorem dX0_placeOf_8 : decode cX0_placeOf 8 = .ok (.istore 4, 2) := by decide +kernel
theorem dX0_placeOf_10 : decode cX0_placeOf 10 = .ok (.iload_n 2, 1) := by decide +kernel
theorem dX0_placeOf_11 : decode cX0_placeOf 11 = .ok (.iload_n 3, 1) := by decide +kernel
theorem dX0_placeOf_12 : decode cX0_placeOf 12 = .ok (.if_icmp .ge 46, 3) := by decide +kernel
theorem dX0_placeOf_15 : decode cX0_placeOf 15 = .ok (.iload 4, 2) := by decide +kernel
theorem dX0_placeOf_17 : decode cX0_placeOf 17 = .ok (.sipush 160, 3) := by decide +kernel
theorem dX0_placeOf_20 : decode cX0_placeOf 20 = .ok (.if_icmp .ge 38, 3) := by decide +kernel
theorem dX0_placeOf_23 : decode cX0_placeOf 23 = .ok (.iload_n 2, 1) := by decide +kernel
theorem dX0_placeOf_24 : decode cX0_placeOf 24 = .ok (.iload_n 3, 1) := by decide +kernel
theorem dX0_placeOf_25 : decode cX0_placeOf 25 = .ok (.iadd, 1) := by decide +kernel
theorem dX0_placeOf_26 : decode cX0_placeOf 26 = .ok (.iconst 2, 1) := by decide +kernel
theorem dX0_placeOf_27 : decode cX0_placeOf 27 = .ok (.idiv, 1) := by decide +kernel
theorem dX0_placeOf_28 : decode cX0_placeOf 28 = .ok (.istore 5, 2) := by decide +kernel
theorem dX0_placeOf_30 : decode cX0_placeOf 30 = .ok (.aload_n 0, 1) := by decide +kernel
theorem dX0_placeOf_31 : decode cX0_placeOf 31 = .ok (.getfield 9, 3) := by decide +kernel
theorem dX0_placeOf_34 : decode cX0_placeOf 34 = .ok (.iload 5, 2) := by decide +kernel
theorem dX0_placeOf_36 : decode cX0_placeOf 36 = .ok (.iaload, 1) := by decide +kernel
theorem dX0_placeOf_37 : decode cX0_placeOf 37 = .ok (.iload_n 1, 1) := by decide +kernel
theorem dX0_placeOf_38 : decode cX0_placeOf 38 = .ok (.if_icmp .ge 11, 3) := by decide +kernel
theorem dX0_placeOf_41 : decode cX0_placeOf 41 = .ok (.iload 5, 2) := by decide +kernel
theorem dX0_placeOf_43 : decode cX0_placeOf 43 = .ok (.iconst 1, 1) := by decide +kernel
theorem dX0_placeOf_44 : decode cX0_placeOf 44 = .ok (.iadd, 1) := by decide +kernel
theorem dX0_placeOf_45 : decode cX0_placeOf 45 = .ok (.istore_n 2, 1) := by decide +kernel
theorem dX0_placeOf_46 : decode cX0_placeOf 46 = .ok (.goto 6, 3) := by decide +kernel
theorem dX0_placeOf_49 : decode cX0_placeOf 49 = .ok (.iload 5, 2) := by decide +kernel
theorem dX0_placeOf_51 : decode cX0_placeOf 51 = .ok (.istore_n 3, 1) := by decide +kernel
theorem dX0_placeOf_52 : decode cX0_placeOf 52 = .ok (.iinc 4 1, 3) := by decide +kernel
theorem dX0_placeOf_55 : decode cX0_placeOf 55 = .ok (.goto (-45), 3) := by decide +kernel
theorem dX0_placeOf_58 : decode cX0_placeOf 58 = .ok (.iload_n 2, 1) := by decide +kernel
theorem dX0_placeOf_59 : decode cX0_placeOf 59 = .ok (.ireturn, 1) := by decide +kernel
set_option maxRecDepth 20000 in
theorem ggX0_firstPlaceFrom_X7_packedArc : GoodIn wsX0_firstPlaceFrom wsX7_packedArc := goodIn_g _ [(3, 1)] (by exact rfl) (by decide +kernel)
set_option maxRecDepth 20000 in
theorem gX0_firstPlaceFrom_X7_packedArc_n38 : GoodIn wsX0_firstPlaceFrom (wsX7_packedArc) := ggX0_firstPlaceFrom_X7_packedArc
set_option maxRecDepth 20000 in
theorem ggX0_firstPlaceFrom_X0_placeOf : GoodIn wsX0_firstPlaceFrom wsX0_placeOf := goodIn_g _ [(8, 6)] (by exact rfl) (by decide +kernel)
set_option maxRecDepth 20000 in
theorem gX0_firstPlaceFrom_X0_placeOf : GoodIn wsX0_firstPlaceFrom (wsV RX0 22 RX0 yX0_placeOf wsX0_placeOf) := goodIn_app (goodIn_of _ (by decide +kernel)) ggX0_firstPlaceFrom_X0_placeOf
theorem dX0_firstPlaceFrom_0 : decode cX0_firstPlaceFrom 0 = .ok (.aload_n 0, 1) := by decide +kernel
theorem dX0_firstPlaceFrom_1 : decode cX0_firstPlaceFrom 1 = .ok (.iload_n 1, 1) := by decide +kernel
theorem dX0_firstPlaceFrom_2 : decode cX0_firstPlaceFrom 2 = .ok (.iconst 0, 1) := by decide +kernel
theorem dX0_firstPlaceFrom_3 : decode cX0_firstPlaceFrom 3 = .ok (.iconst 0, 1) := by decide +kernel
theorem dX0_firstPlaceFrom_4 : decode cX0_firstPlaceFrom 4 = .ok (.iconst 0, 1) := by decide +kernel
theorem dX0_firstPlaceFrom_5 : decode cX0_firstPlaceFrom 5 = .ok (.invokestatic 38, 3) := by decide +kernel
theorem dX0_firstPlaceFrom_8 : decode cX0_firstPlaceFrom 8 = .ok (.invokevirtual 22, 3) := by decide +kernel
theorem dX0_firstPlaceFrom_11 : decode cX0_firstPlaceFrom 11 = .ok (.ireturn, 1) := by decide +kernel
set_option maxRecDepth 20000 in
theorem ggX1_init_X0_init : GoodIn wsX1_init wsX0_init := goodIn_g _ [(23, 2), (2, 3), (25, 3), (41, 3)] (by exact rfl) (by decide +kernel)
set_option maxRecDepth 20000 in
theorem gX1_init_X0_init_n52 : GoodIn wsX1_init (wsX0_init) := ggX1_init_X0_init
theorem dX1_init_0 : decode cX1_init 0 = .ok (.aload_n 0, 1) := by decide +kernel
theorem dX1_init_1 : decode cX1_init 1 = .ok (.invokespecial 3, 3) := by decide +kernel
theorem dX1_init_4 : decode cX1_init 4 = .ok (.aload_n 0, 1) := by decide +kernel
theorem dX1_init_5 : decode cX1_init 5 = .ok (.sipush 25600, 3) := by decide +kernel
theorem dX1_init_8 : decode cX1_init 8 = .ok (.newarray .int, 2) := by decide +kernel
theorem dX1_init_10 : decode cX1_init 10 = .ok (.putfield 9, 3) := by decide +kernel
theorem dX1_init_13 : decode cX1_init 13 = .ok (.aload_n 0, 1) := by decide +kernel
theorem dX1_init_14 : decode cX1_init 14 = .ok (.sipush 25600, 3) := by decide +kernel
theorem dX1_init_17 : decode cX1_init 17 = .ok (.newarray .int, 2) := by decide +kernel
theorem dX1_init_19 : decode cX1_init 19 = .ok (.putfield 15, 3) := by decide +kernel
theorem dX1_init_22 : decode cX1_init 22 = .ok (.aload_n 0, 1) := by decide +kernel
theorem dX1_init_23 : decode cX1_init 23 = .ok (.sipush 1024, 3) := by decide +kernel
theorem dX1_init_26 : decode cX1_init 26 = .ok (.newarray .boolean, 2) := by decide +kernel
theorem dX1_init_28 : decode cX1_init 28 = .ok (.putfield 18, 3) := by decide +kernel
theorem dX1_init_31 : decode cX1_init 31 = .ok (.aload_n 0, 1) := by decide +kernel
theorem dX1_init_32 : decode cX1_init 32 = .ok (.iconst 1, 1) := by decide +kernel
theorem dX1_init_33 : decode cX1_init 33 = .ok (.putfield 22, 3) := by decide +kernel
theorem dX1_init_36 : decode cX1_init 36 = .ok (.aload_n 0, 1) := by decide +kernel
theorem dX1_init_37 : decode cX1_init 37 = .ok (.iconst 0, 1) := by decide +kernel
theorem dX1_init_38 : decode cX1_init 38 = .ok (.putfield 26, 3) := by decide +kernel
theorem dX1_init_41 : decode cX1_init 41 = .ok (.aload_n 0, 1) := by decide +kernel
theorem dX1_init_42 : decode cX1_init 42 = .ok (.iconst 0, 1) := by decide +kernel
theorem dX1_init_43 : decode cX1_init 43 = .ok (.putfield 29, 3) := by decide +kernel
theorem dX1_init_46 : decode cX1_init 46 = .ok (.aload_n 0, 1) := by decide +kernel
theorem dX1_init_47 : decode cX1_init 47 = .ok (.sipush 1024, 3) := by decide +kernel
theorem dX1_init_50 : decode cX1_init 50 = .ok (.newarray .int, 2) := by decide +kernel
theorem dX1_init_52 : decode cX1_init 52 = .ok (.putfield 32, 3) := by decide +kernel
theorem dX1_init_55 : decode cX1_init 55 = .ok (.aload_n 0, 1) := by decide +kernel
theorem dX1_init_56 : decode cX1_init 56 = .ok (.sipush 25600, 3) := by decide +kernel
theorem dX1_init_59 : decode cX1_init 59 = .ok (.newarray .int, 2) := by decide +kernel
theorem dX1_init_61 : decode cX1_init 61 = .ok (.putfield 35, 3) := by decide +kernel
theorem dX1_init_64 : decode cX1_init 64 = .ok (.aload_n 0, 1) := by decide +kernel
theorem dX1_init_65 : decode cX1_init 65 = .ok (.sipush 1024, 3) := by decide +kernel
theorem dX1_init_68 : decode cX1_init 68 = .ok (.newarray .int, 2) := by decide +kernel
theorem dX1_init_70 : decode cX1_init 70 = .ok (.putfield 38, 3) := by decide +kernel
theorem dX1_init_73 : decode cX1_init 73 = .ok (.aload_n 0, 1) := by decide +kernel
theorem dX1_init_74 : decode cX1_init 74 = .ok (.sipush 1024, 3) := by decide +kernel
theorem dX1_init_77 : decode cX1_init 77 = .ok (.newarray .boolean, 2) := by decide +kernel
theorem dX1_init_79 : decode cX1_init 79 = .ok (.putfield 41, 3) := by decide +kernel
theorem dX1_init_82 : decode cX1_init 82 = .ok (.aload_n 0, 1) := by decide +kernel
theorem dX1_init_83 : decode cX1_init 83 = .ok (.sipush 1024, 3) := by decide +kernel
theorem dX1_init_86 : decode cX1_init 86 = .ok (.newarray .boolean, 2) := by decide +kernel
theorem dX1_init_88 : decode cX1_init 88 = .ok (.putfield 44, 3) := by decide +kernel
theorem dX1_init_91 : decode cX1_init 91 = .ok (.aload_n 0, 1) := by decide +kernel
theorem dX1_init_92 : decode cX1_init 92 = .ok (.sipush 1024, 3) := by decide +kernel
theorem dX1_init_95 : decode cX1_init 95 = .ok (.newarray .int, 2) := by decide +kernel
theorem dX1_init_97 : decode cX1_init 97 = .ok (.putfield 47, 3) := by decide +kernel
theorem dX1_init_100 : decode cX1_init 100 = .ok (.aload_n 0, 1) := by decide +kernel
theorem dX1_init_101 : decode cX1_init 101 = .ok (.new 50, 3) := by decide +kernel
theorem dX1_init_104 : decode cX1_init 104 = .ok (.dup, 1) := by decide +kernel
theorem dX1_init_105 : decode cX1_init 105 = .ok (.invokespecial 52, 3) := by decide +kernel
theorem dX1_init_108 : decode cX1_init 108 = .ok (.putfield 53, 3) := by decide +kernel
theorem dX1_init_111 : decode cX1_init 111 = .ok (.return_, 1) := by decide +kernel
theorem dX1_begin_0 : decode cX1_begin 0 = .ok (.aload_n 0, 1) := by decide +kernel
theorem dX1_begin_1 : decode cX1_begin 1 = .ok (.iload_n 1, 1) := by decide +kernel
theorem dX1_begin_2 : decode cX1_begin 2 = .ok (.sipush 1024, 3) := by decide +kernel
theorem dX1_begin_5 : decode cX1_begin 5 = .ok (.invokestatic 57, 3) := by decide +kernel
theorem dX1_begin_8 : decode cX1_begin 8 = .ok (.putfield 22, 3) := by decide +kernel
theorem dX1_begin_11 : decode cX1_begin 11 = .ok (.aload_n 0, 1) := by decide +kernel
theorem dX1_begin_12 : decode cX1_begin 12 = .ok (.iload_n 2, 1) := by decide +kernel
theorem dX1_begin_13 : decode cX1_begin 13 = .ok (.putfield 26, 3) := by decide +kernel
theorem dX1_begin_16 : decode cX1_begin 16 = .ok (.aload_n 0, 1) := by decide +kernel
theorem dX1_begin_17 : decode cX1_begin 17 = .ok (.iconst 0, 1) := by decide +kernel
theorem dX1_begin_18 : decode cX1_begin 18 = .ok (.putfield 29, 3) := by decide +kernel
theorem dX1_begin_21 : decode cX1_begin 21 = .ok (.iconst 0, 1) := by decide +kernel
theorem dX1_begin_22 : decode cX1_begin 22 = .ok (.istore_n 3, 1) := by decide +kernel
theorem dX1_begin_23 : decode cX1_begin 23 = .ok (.iload_n 3, 1) := by decide +kernel
theorem dX1_begin_24 : decode cX1_begin 24 = .ok (.aload_n 0, 1) := by decide +kernel
theorem dX1_begin_25 : decode cX1_begin 25 = .ok (.getfield 22, 3) := by decide +kernel
theorem dX1_begin_28 : decode cX1_begin 28 = .ok (.if_icmp .ge 16, 3) := by decide +kernel
theorem dX1_begin_31 : decode cX1_begin 31 = .ok (.aload_n 0, 1) := by decide +kernel
theorem dX1_begin_32 : decode cX1_begin 32 = .ok (.getfield 18, 3) := by decide +kernel
theorem dX1_begin_35 : decode cX1_begin 35 = .ok (.iload_n 3, 1) := by decide +kernel
theorem dX1_begin_36 : decode cX1_begin 36 = .ok (.iconst 0, 1) := by decide +kernel
theorem dX1_begin_37 : decode cX1_begin 37 = .ok (.bastore, 1) := by decide +kernel
theorem dX1_begin_38 : decode cX1_begin 38 = .ok (.iinc 3 1, 3) := by decide +kernel
theorem dX1_begin_41 : decode cX1_begin 41 = .ok (.goto (-18), 3) := by decide +kernel
theorem dX1_begin_44 : decode cX1_begin 44 = .ok (.return_, 1) := by decide +kernel
set_option maxRecDepth 20000 in
theorem ggX1_addArc_X7_packedArc : GoodIn wsX1_addArc wsX7_packedArc := goodIn_g _ [(7, 1)] (by exact rfl) (by decide +kernel)
set_option maxRecDepth 20000 in
theorem gX1_addArc_X7_packedArc_n63 : GoodIn wsX1_addArc (wsX7_packedArc) := ggX1_addArc_X7_packedArc
theorem dX1_addArc_0 : decode cX1_addArc 0 = .ok (.aload_n 0, 1) := by decide +kernel
theorem dX1_addArc_1 : decode cX1_addArc 1 = .ok (.getfield 29, 3) := by decide +kernel
theorem dX1_addArc_4 : decode cX1_addArc 4 = .ok (.sipush 25600, 3) := by decide +kernel
theorem dX1_addArc_7 : decode cX1_addArc 7 = .ok (.if_icmp .ge 58, 3) := by decide +kernel
theorem dX1_addArc_10 : decode cX1_addArc 10 = .ok (.iload_n 1, 1) := by decide +kernel
theorem dX1_addArc_11 : decode cX1_addArc 11 = .ok (.aload_n 0, 1) := by decide +kernel
theorem dX1_addArc_12 : decode cX1_addArc 12 = .ok (.getfield 22, 3) := by decide +kernel
theorem dX1_addArc_15 : decode cX1_addArc 15 = .ok (.if_icmp .ge 50, 3) := by decide +kernel
theorem dX1_addArc_18 : decode cX1_addArc 18 = .ok (.iload 5, 2) := by decide +kernel
theorem dX1_addArc_20 : decode cX1_addArc 20 = .ok (.aload_n 0, 1) := by decide +kernel
theorem dX1_addArc_21 : decode cX1_addArc 21 = .ok (.getfield 22, 3) := by decide +kernel
theorem dX1_addArc_24 : decode cX1_addArc 24 = .ok (.if_icmp .ge 41, 3) := by decide +kernel
theorem dX1_addArc_27 : decode cX1_addArc 27 = .ok (.aload_n 0, 1) := by decide +kernel
theorem dX1_addArc_28 : decode cX1_addArc 28 = .ok (.getfield 9, 3) := by decide +kernel
theorem dX1_addArc_31 : decode cX1_addArc 31 = .ok (.aload_n 0, 1) := by decide +kernel
theorem dX1_addArc_32 : decode cX1_addArc 32 = .ok (.getfield 29, 3) := by decide +kernel
theorem dX1_addArc_35 : decode cX1_addArc 35 = .ok (.iload_n 1, 1) := by decide +kernel
theorem dX1_addArc_36 : decode cX1_addArc 36 = .ok (.iload_n 2, 1) := by decide +kernel
theorem dX1_addArc_37 : decode cX1_addArc 37 = .ok (.iload_n 3, 1) := by decide +kernel
theorem dX1_addArc_38 : decode cX1_addArc 38 = .ok (.iload 5, 2) := by decide +kernel
theorem dX1_addArc_40 : decode cX1_addArc 40 = .ok (.invokestatic 63, 3) := by decide +kernel
theorem dX1_addArc_43 : decode cX1_addArc 43 = .ok (.iastore, 1) := by decide +kernel
theorem dX1_addArc_44 : decode cX1_addArc 44 = .ok (.aload_n 0, 1) := by decide +kernel
theorem dX1_addArc_45 : decode cX1_addArc 45 = .ok (.getfield 15, 3) := by decide +kernel
theorem dX1_addArc_48 : decode cX1_addArc 48 = .ok (.aload_n 0, 1) := by decide +kernel
theorem dX1_addArc_49 : decode cX1_addArc 49 = .ok (.getfield 29, 3) := by decide +kernel
theorem dX1_addArc_52 : decode cX1_addArc 52 = .ok (.iload 4, 2) := by decide +kernel
theorem dX1_addArc_54 : decode cX1_addArc 54 = .ok (.iastore, 1) := by decide +kernel
theorem dX1_addArc_55 : decode cX1_addArc 55 = .ok (.aload_n 0, 1) := by decide +kernel
theorem dX1_addArc_56 : decode cX1_addArc 56 = .ok (.dup, 1) := by decide +kernel
theorem dX1_addArc_57 : decode cX1_addArc 57 = .ok (.getfield 29, 3) := by decide +kernel
theorem dX1_addArc_60 : decode cX1_addArc 60 = .ok (.iconst 1, 1) := by decide +kernel
theorem dX1_addArc_61 : decode cX1_addArc 61 = .ok (.iadd, 1) := by decide +kernel
theorem dX1_addArc_62 : decode cX1_addArc 62 = .ok (.putfield 29, 3) := by decide +kernel
theorem dX1_addArc_65 : decode cX1_addArc 65 = .ok (.return_, 1) := by decide +kernel
theorem dX1_addEnd_0 : decode cX1_addEnd 0 = .ok (.iload_n 1, 1) := by decide +kernel
theorem dX1_addEnd_1 : decode cX1_addEnd 1 = .ok (.aload_n 0, 1) := by decide +kernel
theorem dX1_addEnd_2 : decode cX1_addEnd 2 = .ok (.getfield 22, 3) := by decide +kernel
theorem dX1_addEnd_5 : decode cX1_addEnd 5 = .ok (.if_icmp .ge 10, 3) := by decide +kernel
theorem dX1_addEnd_8 : decode cX1_addEnd 8 = .ok (.aload_n 0, 1) := by decide +kernel
theorem dX1_addEnd_9 : decode cX1_addEnd 9 = .ok (.getfield 18, 3) := by decide +kernel
theorem dX1_addEnd_12 : decode cX1_addEnd 12 = .ok (.iload_n 1, 1) := by decide +kernel
theorem dX1_addEnd_13 : decode cX1_addEnd 13 = .ok (.iconst 1, 1) := by decide +kernel
theorem dX1_addEnd_14 : decode cX1_addEnd 14 = .ok (.bastore, 1) := by decide +kernel
theorem dX1_addEnd_15 : decode cX1_addEnd 15 = .ok (.return_, 1) := by decide +kernel
set_option maxRecDepth 20000 in
theorem ggX1_addArcsOf_X7_fromOf : GoodIn wsX1_addArcsOf wsX7_fromOf := goodIn_g _ [(7, 1)] (by exact rfl) (by decide +kernel)
set_option maxRecDepth 20000 in
theorem gX1_addArcsOf_X7_fromOf_n74 : GoodIn wsX1_addArcsOf (wsX7_fromOf) := ggX1_addArcsOf_X7_fromOf
set_option maxRecDepth 20000 in
theorem ggX1_addArcsOf_X7_upperOf : GoodIn wsX1_addArcsOf wsX7_upperOf := goodIn_g _ [(9, 1)] (by exact rfl) (by decide +kernel)
set_option maxRecDepth 20000 in
theorem gX1_addArcsOf_X7_upperOf_n78 : GoodIn wsX1_addArcsOf (wsX7_upperOf) := ggX1_addArcsOf_X7_upperOf
set_option maxRecDepth 20000 in
theorem ggX1_addArcsOf_X7_lowerOf : GoodIn wsX1_addArcsOf wsX7_lowerOf := goodIn_g _ [(11, 1)] (by exact rfl) (by decide +kernel)
set_option maxRecDepth 20000 in
theorem gX1_addArcsOf_X7_lowerOf_n81 : GoodIn wsX1_addArcsOf (wsX7_lowerOf) := ggX1_addArcsOf_X7_lowerOf
set_option maxRecDepth 20000 in
theorem ggX1_addArcsOf_X7_toOf : GoodIn wsX1_addArcsOf wsX7_toOf := goodIn_g _ [(13, 1)] (by exact rfl) (by decide +kernel)
set_option maxRecDepth 20000 in
theorem gX1_addArcsOf_X7_toOf_n85 : GoodIn wsX1_addArcsOf (wsX7_toOf) := ggX1_addArcsOf_X7_toOf
set_option maxRecDepth 20000 in
theorem ggX1_addArcsOf_X1_addArc : GoodIn wsX1_addArcsOf wsX1_addArc := goodIn_g _ [(18, 6), (6, 1), (24, 1), (31, 13)] (by exact rfl) (by decide +kernel)
set_option maxRecDepth 20000 in
theorem gX1_addArcsOf_X1_addArc : GoodIn wsX1_addArcsOf (wsV RX1 88 RX1 yX1_addArc wsX1_addArc) := goodIn_app (goodIn_of _ (by decide +kernel)) ggX1_addArcsOf_X1_addArc
theorem dX1_addArcsOf_0 : decode cX1_addArcsOf 0 = .ok (.iconst 0, 1) := by decide +kernel
theorem dX1_addArcsOf_1 : decode cX1_addArcsOf 1 = .ok (.istore_n 3, 1) := by decide +kernel
theorem dX1_addArcsOf_2 : decode cX1_addArcsOf 2 = .ok (.iload_n 3, 1) := by decide +kernel
theorem dX1_addArcsOf_3 : decode cX1_addArcsOf 3 = .ok (.aload_n 1, 1) := by decide +kernel
theorem dX1_addArcsOf_4 : decode cX1_addArcsOf 4 = .ok (.getfield 67, 3) := by decide +kernel
theorem dX1_addArcsOf_7 : decode cX1_addArcsOf 7 = .ok (.getfield 72, 3) := by decide +kernel
theorem dX1_addArcsOf_10 : decode cX1_addArcsOf 10 = .ok (.if_icmp .ge 57, 3) := by decide +kernel
theorem dX1_addArcsOf_13 : decode cX1_addArcsOf 13 = .ok (.aload_n 1, 1) := by decide +kernel
theorem dX1_addArcsOf_14 : decode cX1_addArcsOf 14 = .ok (.getfield 67, 3) := by decide +kernel
theorem dX1_addArcsOf_17 : decode cX1_addArcsOf 17 = .ok (.getfield 73, 3) := by decide +kernel
theorem dX1_addArcsOf_20 : decode cX1_addArcsOf 20 = .ok (.iload_n 3, 1) := by decide +kernel
theorem dX1_addArcsOf_21 : decode cX1_addArcsOf 21 = .ok (.iaload, 1) := by decide +kernel
theorem dX1_addArcsOf_22 : decode cX1_addArcsOf 22 = .ok (.istore 4, 2) := by decide +kernel
theorem dX1_addArcsOf_24 : decode cX1_addArcsOf 24 = .ok (.aload_n 0, 1) := by decide +kernel
theorem dX1_addArcsOf_25 : decode cX1_addArcsOf 25 = .ok (.iload_n 2, 1) := by decide +kernel
theorem dX1_addArcsOf_26 : decode cX1_addArcsOf 26 = .ok (.iload 4, 2) := by decide +kernel
theorem dX1_addArcsOf_28 : decode cX1_addArcsOf 28 = .ok (.invokestatic 74, 3) := by decide +kernel
theorem dX1_addArcsOf_31 : decode cX1_addArcsOf 31 = .ok (.iadd, 1) := by decide +kernel
theorem dX1_addArcsOf_32 : decode cX1_addArcsOf 32 = .ok (.iload 4, 2) := by decide +kernel
theorem dX1_addArcsOf_34 : decode cX1_addArcsOf 34 = .ok (.invokestatic 78, 3) := by decide +kernel
theorem dX1_addArcsOf_37 : decode cX1_addArcsOf 37 = .ok (.iload 4, 2) := by decide +kernel
theorem dX1_addArcsOf_39 : decode cX1_addArcsOf 39 = .ok (.invokestatic 81, 3) := by decide +kernel
theorem dX1_addArcsOf_42 : decode cX1_addArcsOf 42 = .ok (.aload_n 1, 1) := by decide +kernel
theorem dX1_addArcsOf_43 : decode cX1_addArcsOf 43 = .ok (.getfield 67, 3) := by decide +kernel
theorem dX1_addArcsOf_46 : decode cX1_addArcsOf 46 = .ok (.getfield 84, 3) := by decide +kernel
theorem dX1_addArcsOf_49 : decode cX1_addArcsOf 49 = .ok (.iload_n 3, 1) := by decide +kernel
theorem dX1_addArcsOf_50 : decode cX1_addArcsOf 50 = .ok (.iaload, 1) := by decide +kernel
theorem dX1_addArcsOf_51 : decode cX1_addArcsOf 51 = .ok (.iload_n 2, 1) := by decide +kernel
theorem dX1_addArcsOf_52 : decode cX1_addArcsOf 52 = .ok (.iload 4, 2) := by decide +kernel
theorem dX1_addArcsOf_54 : decode cX1_addArcsOf 54 = .ok (.invokestatic 85, 3) := by decide +kernel
theorem dX1_addArcsOf_57 : decode cX1_addArcsOf 57 = .ok (.iadd, 1) := by decide +kernel
theorem dX1_addArcsOf_58 : decode cX1_addArcsOf 58 = .ok (.invokevirtual 88, 3) := by decide +kernel
theorem dX1_addArcsOf_61 : decode cX1_addArcsOf 61 = .ok (.iinc 3 1, 3) := by decide +kernel
theorem dX1_addArcsOf_64 : decode cX1_addArcsOf 64 = .ok (.goto (-62), 3) := by decide +kernel
theorem dX1_addArcsOf_67 : decode cX1_addArcsOf 67 = .ok (.return_, 1) := by decide +kernel
set_option maxRecDepth 20000 in
theorem ggX1_addEndsOf_X7_holds : GoodIn wsX1_addEndsOf wsX7_holds := goodIn_g _ [(5, 1)] (by exact rfl) (by decide +kernel)
set_option maxRecDepth 20000 in
theorem gX1_addEndsOf_X7_holds_n95 : GoodIn wsX1_addEndsOf (wsX7_holds) := ggX1_addEndsOf_X7_holds
set_option maxRecDepth 20000 in
theorem ggX1_addEndsOf_X1_addEnd : GoodIn wsX1_addEndsOf wsX1_addEnd := goodIn_g _ [(10, 3), (16, 13)] (by exact rfl) (by decide +kernel)
set_option maxRecDepth 20000 in
theorem gX1_addEndsOf_X1_addEnd : GoodIn wsX1_addEndsOf (wsV RX1 99 RX1 yX1_addEnd wsX1_addEnd) := goodIn_app (goodIn_of _ (by decide +kernel)) ggX1_addEndsOf_X1_addEnd
theorem dX1_addEndsOf_0 : decode cX1_addEndsOf 0 = .ok (.iconst 0, 1) := by decide +kernel
theorem dX1_addEndsOf_1 : decode cX1_addEndsOf 1 = .ok (.istore_n 3, 1) := by decide +kernel
theorem dX1_addEndsOf_2 : decode cX1_addEndsOf 2 = .ok (.iload_n 3, 1) := by decide +kernel
theorem dX1_addEndsOf_3 : decode cX1_addEndsOf 3 = .ok (.aload_n 1, 1) := by decide +kernel
theorem dX1_addEndsOf_4 : decode cX1_addEndsOf 4 = .ok (.getfield 92, 3) := by decide +kernel
theorem dX1_addEndsOf_7 : decode cX1_addEndsOf 7 = .ok (.if_icmp .ge 27, 3) := by decide +kernel
theorem dX1_addEndsOf_10 : decode cX1_addEndsOf 10 = .ok (.aload_n 1, 1) := by decide +kernel
theorem dX1_addEndsOf_11 : decode cX1_addEndsOf 11 = .ok (.getfield 93, 3) := by decide +kernel
theorem dX1_addEndsOf_14 : decode cX1_addEndsOf 14 = .ok (.iload_n 3, 1) := by decide +kernel
theorem dX1_addEndsOf_15 : decode cX1_addEndsOf 15 = .ok (.invokestatic 95, 3) := by decide +kernel
theorem dX1_addEndsOf_18 : decode cX1_addEndsOf 18 = .ok (.ifCond .eq 10, 3) := by decide +kernel
theorem dX1_addEndsOf_21 : decode cX1_addEndsOf 21 = .ok (.aload_n 0, 1) := by decide +kernel
theorem dX1_addEndsOf_22 : decode cX1_addEndsOf 22 = .ok (.iload_n 2, 1) := by decide +kernel
theorem dX1_addEndsOf_23 : decode cX1_addEndsOf 23 = .ok (.iload_n 3, 1) := by decide +kernel
theorem dX1_addEndsOf_24 : decode cX1_addEndsOf 24 = .ok (.iadd, 1) := by decide +kernel
theorem dX1_addEndsOf_25 : decode cX1_addEndsOf 25 = .ok (.invokevirtual 99, 3) := by decide +kernel
theorem dX1_addEndsOf_28 : decode cX1_addEndsOf 28 = .ok (.iinc 3 1, 3) := by decide +kernel
theorem dX1_addEndsOf_31 : decode cX1_addEndsOf 31 = .ok (.goto (-29), 3) := by decide +kernel
theorem dX1_addEndsOf_34 : decode cX1_addEndsOf 34 = .ok (.return_, 1) := by decide +kernel
set_option maxRecDepth 20000 in
theorem ggX1_leadFromEndsOf_X7_holds : GoodIn wsX1_leadFromEndsOf wsX7_holds := goodIn_g _ [(5, 1)] (by exact rfl) (by decide +kernel)
set_option maxRecDepth 20000 in
theorem gX1_leadFromEndsOf_X7_holds_n95 : GoodIn wsX1_leadFromEndsOf (wsX7_holds) := ggX1_leadFromEndsOf_X7_holds
set_option maxRecDepth 20000 in
theorem ggX1_leadFromEndsOf_X1_addArc : GoodIn wsX1_leadFromEndsOf wsX1_addArc := goodIn_g _ [(10, 6), (4, 1), (16, 1), (20, 13)] (by exact rfl) (by decide +kernel)
set_option maxRecDepth 20000 in
theorem gX1_leadFromEndsOf_X1_addArc : GoodIn wsX1_leadFromEndsOf (wsV RX1 88 RX1 yX1_addArc wsX1_addArc) := goodIn_app (goodIn_of _ (by decide +kernel)) ggX1_leadFromEndsOf_X1_addArc
theorem dX1_leadFromEndsOf_0 : decode cX1_leadFromEndsOf 0 = .ok (.iconst 0, 1) := by decide +kernel
theorem dX1_leadFromEndsOf_1 : decode cX1_leadFromEndsOf 1 = .ok (.istore 4, 2) := by decide +kernel
theorem dX1_leadFromEndsOf_3 : decode cX1_leadFromEndsOf 3 = .ok (.iload 4, 2) := by decide +kernel
theorem dX1_leadFromEndsOf_5 : decode cX1_leadFromEndsOf 5 = .ok (.aload_n 1, 1) := by decide +kernel
theorem dX1_leadFromEndsOf_6 : decode cX1_leadFromEndsOf 6 = .ok (.getfield 92, 3) := by decide +kernel
theorem dX1_leadFromEndsOf_9 : decode cX1_leadFromEndsOf 9 = .ok (.if_icmp .ge 35, 3) := by decide +kernel
theorem dX1_leadFromEndsOf_12 : decode cX1_leadFromEndsOf 12 = .ok (.aload_n 1, 1) := by decide +kernel
theorem dX1_leadFromEndsOf_13 : decode cX1_leadFromEndsOf 13 = .ok (.getfield 93, 3) := by decide +kernel
theorem dX1_leadFromEndsOf_16 : decode cX1_leadFromEndsOf 16 = .ok (.iload 4, 2) := by decide +kernel
theorem dX1_leadFromEndsOf_18 : decode cX1_leadFromEndsOf 18 = .ok (.invokestatic 95, 3) := by decide +kernel
theorem dX1_leadFromEndsOf_21 : decode cX1_leadFromEndsOf 21 = .ok (.ifCond .eq 17, 3) := by decide +kernel
theorem dX1_leadFromEndsOf_24 : decode cX1_leadFromEndsOf 24 = .ok (.aload_n 0, 1) := by decide +kernel
theorem dX1_leadFromEndsOf_25 : decode cX1_leadFromEndsOf 25 = .ok (.iload_n 2, 1) := by decide +kernel
theorem dX1_leadFromEndsOf_26 : decode cX1_leadFromEndsOf 26 = .ok (.iload 4, 2) := by decide +kernel
theorem dX1_leadFromEndsOf_28 : decode cX1_leadFromEndsOf 28 = .ok (.iadd, 1) := by decide +kernel
theorem dX1_leadFromEndsOf_29 : decode cX1_leadFromEndsOf 29 = .ok (.bipush 8, 2) := by decide +kernel
theorem dX1_leadFromEndsOf_31 : decode cX1_leadFromEndsOf 31 = .ok (.bipush 8, 2) := by decide +kernel
theorem dX1_leadFromEndsOf_33 : decode cX1_leadFromEndsOf 33 = .ok (.iconst 0, 1) := by decide +kernel
theorem dX1_leadFromEndsOf_34 : decode cX1_leadFromEndsOf 34 = .ok (.iload_n 3, 1) := by decide +kernel
theorem dX1_leadFromEndsOf_35 : decode cX1_leadFromEndsOf 35 = .ok (.invokevirtual 88, 3) := by decide +kernel
theorem dX1_leadFromEndsOf_38 : decode cX1_leadFromEndsOf 38 = .ok (.iinc 4 1, 3) := by decide +kernel
theorem dX1_leadFromEndsOf_41 : decode cX1_leadFromEndsOf 41 = .ok (.goto (-38), 3) := by decide +kernel
theorem dX1_leadFromEndsOf_44 : decode cX1_leadFromEndsOf 44 = .ok (.return_, 1) := by decide +kernel
set_option maxRecDepth 20000 in
theorem ggX1_trimInto_X1_markReached : GoodIn wsX1_trimInto wsX1_markReached := goodIn_g _ [(11, 3), (6, 1), (14, 4), (10, 1), (18, 14), (94, 13)] (by exact rfl) (by decide +kernel)
set_option maxRecDepth 20000 in
theorem gX1_trimInto_X1_markReached : GoodIn wsX1_trimInto (wsV RX1 103 RX1 yX1_markReached wsX1_markReached) := goodIn_app (goodIn_of _ (by decide +kernel)) ggX1_trimInto_X1_markReached
set_option maxRecDepth 20000 in
theorem ggX1_trimInto_X1_markUseful : GoodIn wsX1_trimInto wsX1_markUseful := goodIn_g _ [(35, 1), (12, 1), (5, 1), (13, 1), (36, 1), (14, 4), (10, 1), (18, 14), (94, 13)] (by exact rfl) (by decide +kernel)
set_option maxRecDepth 20000 in
theorem gX1_trimInto_X1_markUseful : GoodIn wsX1_trimInto (wsV RX1 106 RX1 yX1_markUseful wsX1_markUseful) := goodIn_app (goodIn_of _ (by decide +kernel)) ggX1_trimInto_X1_markUseful
set_option maxRecDepth 20000 in
theorem ggX1_trimInto_X1_gatherUseful : GoodIn wsX1_trimInto wsX1_gatherUseful := goodIn_g _ [(40, 2), (4, 1), (20, 1), (5, 1), (21, 1), (42, 1), (23, 5), (43, 20), (94, 13), (91, 3)] (by exact rfl) (by decide +kernel)
set_option maxRecDepth 20000 in
theorem gX1_trimInto_X1_gatherUseful : GoodIn wsX1_trimInto (wsV RX1 110 RX1 yX1_gatherUseful wsX1_gatherUseful) := goodIn_app (goodIn_of _ (by decide +kernel)) ggX1_trimInto_X1_gatherUseful
set_option maxRecDepth 20000 in
theorem ggX1_trimInto_X1_numberStates : GoodIn wsX1_trimInto wsX1_numberStates := goodIn_g _ [(66, 1), (12, 1), (67, 1), (6, 1), (14, 1), (41, 1), (68, 4), (46, 1), (72, 2), (24, 1), (74, 1), (59, 4), (48, 2), (26, 2), (94, 13), (91, 3)] (by exact rfl) (by decide +kernel)
set_option maxRecDepth 20000 in
theorem gX1_trimInto_X1_numberStates : GoodIn wsX1_trimInto (wsV RX1 114 RX1 yX1_numberStates wsX1_numberStates) := goodIn_app (goodIn_of _ (by decide +kernel)) ggX1_trimInto_X1_numberStates
set_option maxRecDepth 20000 in
theorem ggX1_trimInto_X1_writeEnds : GoodIn wsX1_trimInto wsX1_writeEnds := goodIn_g _ [(78, 1), (1, 1), (36, 1), (14, 1), (2, 1), (88, 3), (94, 13)] (by exact rfl) (by decide +kernel)
set_option maxRecDepth 20000 in
theorem gX1_trimInto_X1_writeEnds : GoodIn wsX1_trimInto (wsV RX1 117 RX1 yX1_writeEnds wsX1_writeEnds) := goodIn_app (goodIn_of _ (by decide +kernel)) ggX1_trimInto_X1_writeEnds
set_option maxRecDepth 20000 in
theorem ggX1_trimInto_X1_writeArcs : GoodIn wsX1_trimInto wsX1_writeArcs := goodIn_g _ [(82, 1), (41, 1), (4, 1), (68, 1), (67, 1), (3, 1), (83, 1), (23, 3), (84, 4), (26, 2), (73, 2), (43, 20), (94, 13), (91, 3), (88, 3)] (by exact rfl) (by decide +kernel)
set_option maxRecDepth 20000 in
theorem gX1_trimInto_X1_writeArcs : GoodIn wsX1_trimInto (wsV RX1 121 RX1 yX1_writeArcs wsX1_writeArcs) := goodIn_app (goodIn_of _ (by decide +kernel)) ggX1_trimInto_X1_writeArcs
theorem dX1_trimInto_0 : decode cX1_trimInto 0 = .ok (.aload_n 1, 1) := by decide +kernel
theorem dX1_trimInto_1 : decode cX1_trimInto 1 = .ok (.iconst 1, 1) := by decide +kernel
theorem dX1_trimInto_2 : decode cX1_trimInto 2 = .ok (.putfield 92, 3) := by decide +kernel
theorem dX1_trimInto_5 : decode cX1_trimInto 5 = .ok (.aload_n 1, 1) := by decide +kernel
theorem dX1_trimInto_6 : decode cX1_trimInto 6 = .ok (.iconst 0, 1) := by decide +kernel
theorem dX1_trimInto_7 : decode cX1_trimInto 7 = .ok (.putfield 93, 3) := by decide +kernel
theorem dX1_trimInto_10 : decode cX1_trimInto 10 = .ok (.aload_n 1, 1) := by decide +kernel
theorem dX1_trimInto_11 : decode cX1_trimInto 11 = .ok (.getfield 67, 3) := by decide +kernel
theorem dX1_trimInto_14 : decode cX1_trimInto 14 = .ok (.iconst 0, 1) := by decide +kernel
theorem dX1_trimInto_15 : decode cX1_trimInto 15 = .ok (.putfield 72, 3) := by decide +kernel
theorem dX1_trimInto_18 : decode cX1_trimInto 18 = .ok (.aload_n 0, 1) := by decide +kernel
theorem dX1_trimInto_19 : decode cX1_trimInto 19 = .ok (.invokevirtual 103, 3) := by decide +kernel
theorem dX1_trimInto_22 : decode cX1_trimInto 22 = .ok (.aload_n 0, 1) := by decide +kernel
theorem dX1_trimInto_23 : decode cX1_trimInto 23 = .ok (.invokevirtual 106, 3) := by decide +kernel
theorem dX1_trimInto_26 : decode cX1_trimInto 26 = .ok (.bipush 32, 2) := by decide +kernel
theorem dX1_trimInto_28 : decode cX1_trimInto 28 = .ok (.if_icmp .le 5, 3) := by decide +kernel
theorem dX1_trimInto_31 : decode cX1_trimInto 31 = .ok (.iconst 0, 1) := by decide +kernel
theorem dX1_trimInto_32 : decode cX1_trimInto 32 = .ok (.ireturn, 1) := by decide +kernel
theorem dX1_trimInto_33 : decode cX1_trimInto 33 = .ok (.aload_n 0, 1) := by decide +kernel
theorem dX1_trimInto_34 : decode cX1_trimInto 34 = .ok (.getfield 44, 3) := by decide +kernel
theorem dX1_trimInto_37 : decode cX1_trimInto 37 = .ok (.aload_n 0, 1) := by decide +kernel
theorem dX1_trimInto_38 : decode cX1_trimInto 38 = .ok (.getfield 26, 3) := by decide +kernel
theorem dX1_trimInto_41 : decode cX1_trimInto 41 = .ok (.baload, 1) := by decide +kernel
theorem dX1_trimInto_42 : decode cX1_trimInto 42 = .ok (.ifCond .ne 5, 3) := by decide +kernel
theorem dX1_trimInto_45 : decode cX1_trimInto 45 = .ok (.iconst 1, 1) := by decide +kernel
theorem dX1_trimInto_46 : decode cX1_trimInto 46 = .ok (.ireturn, 1) := by decide +kernel
theorem dX1_trimInto_47 : decode cX1_trimInto 47 = .ok (.aload_n 0, 1) := by decide +kernel
theorem dX1_trimInto_48 : decode cX1_trimInto 48 = .ok (.invokevirtual 110, 3) := by decide +kernel
theorem dX1_trimInto_51 : decode cX1_trimInto 51 = .ok (.ifCond .ne 5, 3) := by decide +kernel
theorem dX1_trimInto_54 : decode cX1_trimInto 54 = .ok (.iconst 0, 1) := by decide +kernel
theorem dX1_trimInto_55 : decode cX1_trimInto 55 = .ok (.ireturn, 1) := by decide +kernel
theorem dX1_trimInto_56 : decode cX1_trimInto 56 = .ok (.aload_n 1, 1) := by decide +kernel
theorem dX1_trimInto_57 : decode cX1_trimInto 57 = .ok (.aload_n 0, 1) := by decide +kernel
theorem dX1_trimInto_58 : decode cX1_trimInto 58 = .ok (.invokevirtual 114, 3) := by decide +kernel
theorem dX1_trimInto_61 : decode cX1_trimInto 61 = .ok (.putfield 92, 3) := by decide +kernel
theorem dX1_trimInto_64 : decode cX1_trimInto 64 = .ok (.aload_n 0, 1) := by decide +kernel
theorem dX1_trimInto_65 : decode cX1_trimInto 65 = .ok (.aload_n 1, 1) := by decide +kernel
theorem dX1_trimInto_66 : decode cX1_trimInto 66 = .ok (.invokevirtual 117, 3) := by decide +kernel
theorem dX1_trimInto_69 : decode cX1_trimInto 69 = .ok (.aload_n 0, 1) := by decide +kernel
theorem dX1_trimInto_70 : decode cX1_trimInto 70 = .ok (.aload_n 1, 1) := by decide +kernel
theorem dX1_trimInto_71 : decode cX1_trimInto 71 = .ok (.invokevirtual 121, 3) := by decide +kernel
theorem dX1_trimInto_74 : decode cX1_trimInto 74 = .ok (.ireturn, 1) := by decide +kernel
set_option maxRecDepth 20000 in
theorem ggX1_markReached_X1_linkArcs : GoodIn wsX1_markReached wsX1_linkArcs := goodIn_g _ [(9, 1), (1, 1), (10, 2), (2, 1), (12, 7), (23, 13)] (by exact rfl) (by decide +kernel)
set_option maxRecDepth 20000 in
theorem gX1_markReached_X1_linkArcs : GoodIn wsX1_markReached (wsV RX1 125 RX1 yX1_linkArcs wsX1_linkArcs) := goodIn_app (goodIn_of _ (by decide +kernel)) ggX1_markReached_X1_linkArcs
set_option maxRecDepth 20000 in
theorem ggX1_markReached_X1_follow : GoodIn wsX1_markReached wsX1_follow := goodIn_g _ [(22, 1), (10, 1), (4, 1), (11, 3), (17, 1), (15, 1), (18, 1), (14, 1), (16, 1), (23, 13)] (by exact rfl) (by decide +kernel)
set_option maxRecDepth 20000 in
theorem gX1_markReached_X1_follow : GoodIn wsX1_markReached (wsV RX1 129 RX1 yX1_follow wsX1_follow) := goodIn_app (goodIn_of _ (by decide +kernel)) ggX1_markReached_X1_follow
theorem dX1_markReached_0 : decode cX1_markReached 0 = .ok (.iconst 0, 1) := by decide +kernel
theorem dX1_markReached_1 : decode cX1_markReached 1 = .ok (.istore_n 1, 1) := by decide +kernel
theorem dX1_markReached_2 : decode cX1_markReached 2 = .ok (.iload_n 1, 1) := by decide +kernel
theorem dX1_markReached_3 : decode cX1_markReached 3 = .ok (.aload_n 0, 1) := by decide +kernel
theorem dX1_markReached_4 : decode cX1_markReached 4 = .ok (.getfield 22, 3) := by decide +kernel
theorem dX1_markReached_7 : decode cX1_markReached 7 = .ok (.if_icmp .ge 16, 3) := by decide +kernel
theorem dX1_markReached_10 : decode cX1_markReached 10 = .ok (.aload_n 0, 1) := by decide +kernel
theorem dX1_markReached_11 : decode cX1_markReached 11 = .ok (.getfield 41, 3) := by decide +kernel
theorem dX1_markReached_14 : decode cX1_markReached 14 = .ok (.iload_n 1, 1) := by decide +kernel
theorem dX1_markReached_15 : decode cX1_markReached 15 = .ok (.iconst 0, 1) := by decide +kernel
theorem dX1_markReached_16 : decode cX1_markReached 16 = .ok (.bastore, 1) := by decide +kernel
theorem dX1_markReached_17 : decode cX1_markReached 17 = .ok (.iinc 1 1, 3) := by decide +kernel
theorem dX1_markReached_20 : decode cX1_markReached 20 = .ok (.goto (-18), 3) := by decide +kernel
theorem dX1_markReached_23 : decode cX1_markReached 23 = .ok (.aload_n 0, 1) := by decide +kernel
theorem dX1_markReached_24 : decode cX1_markReached 24 = .ok (.getfield 41, 3) := by decide +kernel
theorem dX1_markReached_27 : decode cX1_markReached 27 = .ok (.aload_n 0, 1) := by decide +kernel
theorem dX1_markReached_28 : decode cX1_markReached 28 = .ok (.getfield 26, 3) := by decide +kernel
theorem dX1_markReached_31 : decode cX1_markReached 31 = .ok (.iconst 1, 1) := by decide +kernel
theorem dX1_markReached_32 : decode cX1_markReached 32 = .ok (.bastore, 1) := by decide +kernel
theorem dX1_markReached_33 : decode cX1_markReached 33 = .ok (.aload_n 0, 1) := by decide +kernel
theorem dX1_markReached_34 : decode cX1_markReached 34 = .ok (.getfield 38, 3) := by decide +kernel
theorem dX1_markReached_37 : decode cX1_markReached 37 = .ok (.iconst 0, 1) := by decide +kernel
theorem dX1_markReached_38 : decode cX1_markReached 38 = .ok (.aload_n 0, 1) := by decide +kernel
theorem dX1_markReached_39 : decode cX1_markReached 39 = .ok (.getfield 26, 3) := by decide +kernel
theorem dX1_markReached_42 : decode cX1_markReached 42 = .ok (.iastore, 1) := by decide +kernel
theorem dX1_markReached_43 : decode cX1_markReached 43 = .ok (.aload_n 0, 1) := by decide +kernel
theorem dX1_markReached_44 : decode cX1_markReached 44 = .ok (.iconst 1, 1) := by decide +kernel
theorem dX1_markReached_45 : decode cX1_markReached 45 = .ok (.invokevirtual 125, 3) := by decide +kernel
theorem dX1_markReached_48 : decode cX1_markReached 48 = .ok (.aload_n 0, 1) := by decide +kernel
theorem dX1_markReached_49 : decode cX1_markReached 49 = .ok (.iconst 1, 1) := by decide +kernel
theorem dX1_markReached_50 : decode cX1_markReached 50 = .ok (.iconst 1, 1) := by decide +kernel
theorem dX1_markReached_51 : decode cX1_markReached 51 = .ok (.aload_n 0, 1) := by decide +kernel
theorem dX1_markReached_52 : decode cX1_markReached 52 = .ok (.getfield 41, 3) := by decide +kernel
theorem dX1_markReached_55 : decode cX1_markReached 55 = .ok (.invokevirtual 129, 3) := by decide +kernel
theorem dX1_markReached_58 : decode cX1_markReached 58 = .ok (.pop, 1) := by decide +kernel
theorem dX1_markReached_59 : decode cX1_markReached 59 = .ok (.return_, 1) := by decide +kernel
set_option maxRecDepth 20000 in
theorem ggX1_markUseful_X1_linkArcs : GoodIn wsX1_markUseful wsX1_linkArcs := goodIn_g _ [(10, 1), (1, 1), (11, 2), (3, 1), (13, 7), (24, 13)] (by exact rfl) (by decide +kernel)
set_option maxRecDepth 20000 in
theorem gX1_markUseful_X1_linkArcs : GoodIn wsX1_markUseful (wsV RX1 125 RX1 yX1_linkArcs wsX1_linkArcs) := goodIn_app (goodIn_of _ (by decide +kernel)) ggX1_markUseful_X1_linkArcs
set_option maxRecDepth 20000 in
theorem ggX1_markUseful_X1_follow : GoodIn wsX1_markUseful wsX1_follow := goodIn_g _ [(23, 1), (11, 1), (5, 1), (12, 3), (18, 1), (16, 1), (19, 1), (15, 1), (17, 1), (24, 13)] (by exact rfl) (by decide +kernel)
set_option maxRecDepth 20000 in
theorem gX1_markUseful_X1_follow : GoodIn wsX1_markUseful (wsV RX1 129 RX1 yX1_follow wsX1_follow) := goodIn_app (goodIn_of _ (by decide +kernel)) ggX1_markUseful_X1_follow
theorem dX1_markUseful_0 : decode cX1_markUseful 0 = .ok (.iconst 0, 1) := by decide +kernel
theorem dX1_markUseful_1 : decode cX1_markUseful 1 = .ok (.istore_n 1, 1) := by decide +kernel
theorem dX1_markUseful_2 : decode cX1_markUseful 2 = .ok (.iconst 0, 1) := by decide +kernel
theorem dX1_markUseful_3 : decode cX1_markUseful 3 = .ok (.istore_n 2, 1) := by decide +kernel
theorem dX1_markUseful_4 : decode cX1_markUseful 4 = .ok (.iload_n 2, 1) := by decide +kernel
theorem dX1_markUseful_5 : decode cX1_markUseful 5 = .ok (.aload_n 0, 1) := by decide +kernel
theorem dX1_markUseful_6 : decode cX1_markUseful 6 = .ok (.getfield 22, 3) := by decide +kernel
theorem dX1_markUseful_9 : decode cX1_markUseful 9 = .ok (.if_icmp .ge 57, 3) := by decide +kernel
theorem dX1_markUseful_12 : decode cX1_markUseful 12 = .ok (.aload_n 0, 1) := by decide +kernel
theorem dX1_markUseful_13 : decode cX1_markUseful 13 = .ok (.getfield 44, 3) := by decide +kernel
theorem dX1_markUseful_16 : decode cX1_markUseful 16 = .ok (.iload_n 2, 1) := by decide +kernel
theorem dX1_markUseful_17 : decode cX1_markUseful 17 = .ok (.aload_n 0, 1) := by decide +kernel
theorem dX1_markUseful_18 : decode cX1_markUseful 18 = .ok (.getfield 41, 3) := by decide +kernel
theorem dX1_markUseful_21 : decode cX1_markUseful 21 = .ok (.iload_n 2, 1) := by decide +kernel
theorem dX1_markUseful_22 : decode cX1_markUseful 22 = .ok (.baload, 1) := by decide +kernel
theorem dX1_markUseful_23 : decode cX1_markUseful 23 = .ok (.ifCond .eq 16, 3) := by decide +kernel
theorem dX1_markUseful_26 : decode cX1_markUseful 26 = .ok (.aload_n 0, 1) := by decide +kernel
theorem dX1_markUseful_27 : decode cX1_markUseful 27 = .ok (.getfield 18, 3) := by decide +kernel
theorem dX1_markUseful_30 : decode cX1_markUseful 30 = .ok (.iload_n 2, 1) := by decide +kernel
theorem dX1_markUseful_31 : decode cX1_markUseful 31 = .ok (.baload, 1) := by decide +kernel
theorem dX1_markUseful_32 : decode cX1_markUseful 32 = .ok (.ifCond .eq 7, 3) := by decide +kernel
theorem dX1_markUseful_35 : decode cX1_markUseful 35 = .ok (.iconst 1, 1) := by decide +kernel
theorem dX1_markUseful_36 : decode cX1_markUseful 36 = .ok (.goto 4, 3) := by decide +kernel
theorem dX1_markUseful_39 : decode cX1_markUseful 39 = .ok (.iconst 0, 1) := by decide +kernel
theorem dX1_markUseful_40 : decode cX1_markUseful 40 = .ok (.bastore, 1) := by decide +kernel
theorem dX1_markUseful_41 : decode cX1_markUseful 41 = .ok (.aload_n 0, 1) := by decide +kernel
theorem dX1_markUseful_42 : decode cX1_markUseful 42 = .ok (.getfield 44, 3) := by decide +kernel
theorem dX1_markUseful_45 : decode cX1_markUseful 45 = .ok (.iload_n 2, 1) := by decide +kernel
theorem dX1_markUseful_46 : decode cX1_markUseful 46 = .ok (.baload, 1) := by decide +kernel
theorem dX1_markUseful_47 : decode cX1_markUseful 47 = .ok (.ifCond .eq 13, 3) := by decide +kernel
theorem dX1_markUseful_50 : decode cX1_markUseful 50 = .ok (.aload_n 0, 1) := by decide +kernel
theorem dX1_markUseful_51 : decode cX1_markUseful 51 = .ok (.getfield 38, 3) := by decide +kernel
theorem dX1_markUseful_54 : decode cX1_markUseful 54 = .ok (.iload_n 1, 1) := by decide +kernel
theorem dX1_markUseful_55 : decode cX1_markUseful 55 = .ok (.iload_n 2, 1) := by decide +kernel
theorem dX1_markUseful_56 : decode cX1_markUseful 56 = .ok (.iastore, 1) := by decide +kernel
theorem dX1_markUseful_57 : decode cX1_markUseful 57 = .ok (.iinc 1 1, 3) := by decide +kernel
theorem dX1_markUseful_60 : decode cX1_markUseful 60 = .ok (.iinc 2 1, 3) := by decide +kernel
theorem dX1_markUseful_63 : decode cX1_markUseful 63 = .ok (.goto (-59), 3) := by decide +kernel
theorem dX1_markUseful_66 : decode cX1_markUseful 66 = .ok (.aload_n 0, 1) := by decide +kernel
theorem dX1_markUseful_67 : decode cX1_markUseful 67 = .ok (.iconst 0, 1) := by decide +kernel
theorem dX1_markUseful_68 : decode cX1_markUseful 68 = .ok (.invokevirtual 125, 3) := by decide +kernel
theorem dX1_markUseful_71 : decode cX1_markUseful 71 = .ok (.aload_n 0, 1) := by decide +kernel
theorem dX1_markUseful_72 : decode cX1_markUseful 72 = .ok (.iload_n 1, 1) := by decide +kernel
theorem dX1_markUseful_73 : decode cX1_markUseful 73 = .ok (.iconst 0, 1) := by decide +kernel
theorem dX1_markUseful_74 : decode cX1_markUseful 74 = .ok (.aload_n 0, 1) := by decide +kernel
theorem dX1_markUseful_75 : decode cX1_markUseful 75 = .ok (.getfield 44, 3) := by decide +kernel
theorem dX1_markUseful_78 : decode cX1_markUseful 78 = .ok (.invokevirtual 129, 3) := by decide +kernel
theorem dX1_markUseful_81 : decode cX1_markUseful 81 = .ok (.ireturn, 1) := by decide +kernel
set_option maxRecDepth 20000 in
theorem ggX1_linkArcs_X7_fromOf : GoodIn wsX1_linkArcs wsX7_fromOf := goodIn_g _ [(9, 1)] (by exact rfl) (by decide +kernel)
set_option maxRecDepth 20000 in
theorem gX1_linkArcs_X7_fromOf_n74 : GoodIn wsX1_linkArcs (wsX7_fromOf) := ggX1_linkArcs_X7_fromOf
set_option maxRecDepth 20000 in
theorem ggX1_linkArcs_X7_toOf : GoodIn wsX1_linkArcs wsX7_toOf := goodIn_g _ [(11, 1)] (by exact rfl) (by decide +kernel)
set_option maxRecDepth 20000 in
theorem gX1_linkArcs_X7_toOf_n85 : GoodIn wsX1_linkArcs (wsX7_toOf) := ggX1_linkArcs_X7_toOf
theorem dX1_linkArcs_0 : decode cX1_linkArcs 0 = .ok (.iconst 0, 1) := by decide +kernel
theorem dX1_linkArcs_1 : decode cX1_linkArcs 1 = .ok (.istore_n 2, 1) := by decide +kernel
theorem dX1_linkArcs_2 : decode cX1_linkArcs 2 = .ok (.iload_n 2, 1) := by decide +kernel
theorem dX1_linkArcs_3 : decode cX1_linkArcs 3 = .ok (.aload_n 0, 1) := by decide +kernel
theorem dX1_linkArcs_4 : decode cX1_linkArcs 4 = .ok (.getfield 22, 3) := by decide +kernel
theorem dX1_linkArcs_7 : decode cX1_linkArcs 7 = .ok (.if_icmp .ge 16, 3) := by decide +kernel
theorem dX1_linkArcs_10 : decode cX1_linkArcs 10 = .ok (.aload_n 0, 1) := by decide +kernel
theorem dX1_linkArcs_11 : decode cX1_linkArcs 11 = .ok (.getfield 32, 3) := by decide +kernel
theorem dX1_linkArcs_14 : decode cX1_linkArcs 14 = .ok (.iload_n 2, 1) := by decide +kernel
theorem dX1_linkArcs_15 : decode cX1_linkArcs 15 = .ok (.iconst (-1), 1) := by decide +kernel
theorem dX1_linkArcs_16 : decode cX1_linkArcs 16 = .ok (.iastore, 1) := by decide +kernel
theorem dX1_linkArcs_17 : decode cX1_linkArcs 17 = .ok (.iinc 2 1, 3) := by decide +kernel
theorem dX1_linkArcs_20 : decode cX1_linkArcs 20 = .ok (.goto (-18), 3) := by decide +kernel
theorem dX1_linkArcs_23 : decode cX1_linkArcs 23 = .ok (.iconst 0, 1) := by decide +kernel
theorem dX1_linkArcs_24 : decode cX1_linkArcs 24 = .ok (.istore_n 2, 1) := by decide +kernel
theorem dX1_linkArcs_25 : decode cX1_linkArcs 25 = .ok (.iload_n 2, 1) := by decide +kernel
theorem dX1_linkArcs_26 : decode cX1_linkArcs 26 = .ok (.aload_n 0, 1) := by decide +kernel
theorem dX1_linkArcs_27 : decode cX1_linkArcs 27 = .ok (.getfield 29, 3) := by decide +kernel
theorem dX1_linkArcs_30 : decode cX1_linkArcs 30 = .ok (.if_icmp .ge 75, 3) := by decide +kernel
theorem dX1_linkArcs_33 : decode cX1_linkArcs 33 = .ok (.iload_n 1, 1) := by decide +kernel
theorem dX1_linkArcs_34 : decode cX1_linkArcs 34 = .ok (.ifCond .ne 20, 3) := by decide +kernel
theorem dX1_linkArcs_37 : decode cX1_linkArcs 37 = .ok (.aload_n 0, 1) := by decide +kernel
theorem dX1_linkArcs_38 : decode cX1_linkArcs 38 = .ok (.getfield 41, 3) := by decide +kernel
theorem dX1_linkArcs_41 : decode cX1_linkArcs 41 = .ok (.aload_n 0, 1) := by decide +kernel
theorem dX1_linkArcs_42 : decode cX1_linkArcs 42 = .ok (.getfield 9, 3) := by decide +kernel
theorem dX1_linkArcs_45 : decode cX1_linkArcs 45 = .ok (.iload_n 2, 1) := by decide +kernel
theorem dX1_linkArcs_46 : decode cX1_linkArcs 46 = .ok (.iaload, 1) := by decide +kernel
theorem dX1_linkArcs_47 : decode cX1_linkArcs 47 = .ok (.invokestatic 74, 3) := by decide +kernel
theorem dX1_linkArcs_50 : decode cX1_linkArcs 50 = .ok (.baload, 1) := by decide +kernel
theorem dX1_linkArcs_51 : decode cX1_linkArcs 51 = .ok (.ifCond .eq 48, 3) := by decide +kernel
theorem dX1_linkArcs_54 : decode cX1_linkArcs 54 = .ok (.iload_n 1, 1) := by decide +kernel
theorem dX1_linkArcs_55 : decode cX1_linkArcs 55 = .ok (.ifCond .eq 15, 3) := by decide +kernel
theorem dX1_linkArcs_58 : decode cX1_linkArcs 58 = .ok (.aload_n 0, 1) := by decide +kernel
theorem dX1_linkArcs_59 : decode cX1_linkArcs 59 = .ok (.getfield 9, 3) := by decide +kernel
theorem dX1_linkArcs_62 : decode cX1_linkArcs 62 = .ok (.iload_n 2, 1) := by decide +kernel
theorem dX1_linkArcs_63 : decode cX1_linkArcs 63 = .ok (.iaload, 1) := by decide +kernel
theorem dX1_linkArcs_64 : decode cX1_linkArcs 64 = .ok (.invokestatic 74, 3) := by decide +kernel
theorem dX1_linkArcs_67 : decode cX1_linkArcs 67 = .ok (.goto 12, 3) := by decide +kernel
theorem dX1_linkArcs_70 : decode cX1_linkArcs 70 = .ok (.aload_n 0, 1) := by decide +kernel
theorem dX1_linkArcs_71 : decode cX1_linkArcs 71 = .ok (.getfield 9, 3) := by decide +kernel
theorem dX1_linkArcs_74 : decode cX1_linkArcs 74 = .ok (.iload_n 2, 1) := by decide +kernel
theorem dX1_linkArcs_75 : decode cX1_linkArcs 75 = .ok (.iaload, 1) := by decide +kernel
theorem dX1_linkArcs_76 : decode cX1_linkArcs 76 = .ok (.invokestatic 85, 3) := by decide +kernel
theorem dX1_linkArcs_79 : decode cX1_linkArcs 79 = .ok (.istore_n 3, 1) := by decide +kernel
theorem dX1_linkArcs_80 : decode cX1_linkArcs 80 = .ok (.aload_n 0, 1) := by decide +kernel
theorem dX1_linkArcs_81 : decode cX1_linkArcs 81 = .ok (.getfield 35, 3) := by decide +kernel
theorem dX1_linkArcs_84 : decode cX1_linkArcs 84 = .ok (.iload_n 2, 1) := by decide +kernel
theorem dX1_linkArcs_85 : decode cX1_linkArcs 85 = .ok (.aload_n 0, 1) := by decide +kernel
theorem dX1_linkArcs_86 : decode cX1_linkArcs 86 = .ok (.getfield 32, 3) := by decide +kernel
theorem dX1_linkArcs_89 : decode cX1_linkArcs 89 = .ok (.iload_n 3, 1) := by decide +kernel
theorem dX1_linkArcs_90 : decode cX1_linkArcs 90 = .ok (.iaload, 1) := by decide +kernel
theorem dX1_linkArcs_91 : decode cX1_linkArcs 91 = .ok (.iastore, 1) := by decide +kernel
theorem dX1_linkArcs_92 : decode cX1_linkArcs 92 = .ok (.aload_n 0, 1) := by decide +kernel
theorem dX1_linkArcs_93 : decode cX1_linkArcs 93 = .ok (.getfield 32, 3) := by decide +kernel
theorem dX1_linkArcs_96 : decode cX1_linkArcs 96 = .ok (.iload_n 3, 1) := by decide +kernel
theorem dX1_linkArcs_97 : decode cX1_linkArcs 97 = .ok (.iload_n 2, 1) := by decide +kernel
theorem dX1_linkArcs_98 : decode cX1_linkArcs 98 = .ok (.iastore, 1) := by decide +kernel
theorem dX1_linkArcs_99 : decode cX1_linkArcs 99 = .ok (.iinc 2 1, 3) := by decide +kernel
theorem dX1_linkArcs_102 : decode cX1_linkArcs 102 = .ok (.goto (-77), 3) := by decide +kernel
theorem dX1_linkArcs_105 : decode cX1_linkArcs 105 = .ok (.return_, 1) := by decide +kernel
set_option maxRecDepth 20000 in
theorem ggX1_follow_X7_toOf : GoodIn wsX1_follow wsX7_toOf := goodIn_g _ [(8, 1)] (by exact rfl) (by decide +kernel)
set_option maxRecDepth 20000 in
theorem gX1_follow_X7_toOf_n85 : GoodIn wsX1_follow (wsX7_toOf) := ggX1_follow_X7_toOf
set_option maxRecDepth 20000 in
theorem ggX1_follow_X7_fromOf : GoodIn wsX1_follow wsX7_fromOf := goodIn_g _ [(10, 1)] (by exact rfl) (by decide +kernel)
set_option maxRecDepth 20000 in
theorem gX1_follow_X7_fromOf_n74 : GoodIn wsX1_follow (wsX7_fromOf) := ggX1_follow_X7_fromOf
theorem dX1_follow_0 : decode cX1_follow 0 = .ok (.iload_n 1, 1) := by decide +kernel
theorem dX1_follow_1 : decode cX1_follow 1 = .ok (.istore 4, 2) := by decide +kernel
theorem dX1_follow_3 : decode cX1_follow 3 = .ok (.iconst 0, 1) := by decide +kernel
theorem dX1_follow_4 : decode cX1_follow 4 = .ok (.istore 5, 2) := by decide +kernel
theorem dX1_follow_6 : decode cX1_follow 6 = .ok (.iload 5, 2) := by decide +kernel
theorem dX1_follow_8 : decode cX1_follow 8 = .ok (.iload 4, 2) := by decide +kernel
theorem dX1_follow_10 : decode cX1_follow 10 = .ok (.if_icmp .ge 116, 3) := by decide +kernel
theorem dX1_follow_13 : decode cX1_follow 13 = .ok (.iload 5, 2) := by decide +kernel
theorem dX1_follow_15 : decode cX1_follow 15 = .ok (.sipush 1024, 3) := by decide +kernel
theorem dX1_follow_18 : decode cX1_follow 18 = .ok (.if_icmp .ge 108, 3) := by decide +kernel
theorem dX1_follow_21 : decode cX1_follow 21 = .ok (.aload_n 0, 1) := by decide +kernel
theorem dX1_follow_22 : decode cX1_follow 22 = .ok (.getfield 32, 3) := by decide +kernel
theorem dX1_follow_25 : decode cX1_follow 25 = .ok (.aload_n 0, 1) := by decide +kernel
theorem dX1_follow_26 : decode cX1_follow 26 = .ok (.getfield 38, 3) := by decide +kernel
theorem dX1_follow_29 : decode cX1_follow 29 = .ok (.iload 5, 2) := by decide +kernel
theorem dX1_follow_31 : decode cX1_follow 31 = .ok (.iaload, 1) := by decide +kernel
theorem dX1_follow_32 : decode cX1_follow 32 = .ok (.iaload, 1) := by decide +kernel
theorem dX1_follow_33 : decode cX1_follow 33 = .ok (.istore 6, 2) := by decide +kernel
theorem dX1_follow_35 : decode cX1_follow 35 = .ok (.iconst 0, 1) := by decide +kernel
theorem dX1_follow_36 : decode cX1_follow 36 = .ok (.istore 7, 2) := by decide +kernel
theorem dX1_follow_38 : decode cX1_follow 38 = .ok (.iload 6, 2) := by decide +kernel
theorem dX1_follow_40 : decode cX1_follow 40 = .ok (.ifCond .lt 80, 3) := by decide +kernel
theorem dX1_follow_43 : decode cX1_follow 43 = .ok (.iload 7, 2) := by decide +kernel
theorem dX1_follow_45 : decode cX1_follow 45 = .ok (.aload_n 0, 1) := by decide +kernel
theorem dX1_follow_46 : decode cX1_follow 46 = .ok (.getfield 29, 3) := by decide +kernel
theorem dX1_follow_49 : decode cX1_follow 49 = .ok (.if_icmp .ge 71, 3) := by decide +kernel
theorem dX1_follow_52 : decode cX1_follow 52 = .ok (.iload_n 2, 1) := by decide +kernel
theorem dX1_follow_53 : decode cX1_follow 53 = .ok (.ifCond .eq 16, 3) := by decide +kernel
theorem dX1_follow_56 : decode cX1_follow 56 = .ok (.aload_n 0, 1) := by decide +kernel
theorem dX1_follow_57 : decode cX1_follow 57 = .ok (.getfield 9, 3) := by decide +kernel
theorem dX1_follow_60 : decode cX1_follow 60 = .ok (.iload 6, 2) := by decide +kernel
theorem dX1_follow_62 : decode cX1_follow 62 = .ok (.iaload, 1) := by decide +kernel
theorem dX1_follow_63 : decode cX1_follow 63 = .ok (.invokestatic 85, 3) := by decide +kernel
theorem dX1_follow_66 : decode cX1_follow 66 = .ok (.goto 13, 3) := by decide +kernel
theorem dX1_follow_69 : decode cX1_follow 69 = .ok (.aload_n 0, 1) := by decide +kernel
theorem dX1_follow_70 : decode cX1_follow 70 = .ok (.getfield 9, 3) := by decide +kernel
theorem dX1_follow_73 : decode cX1_follow 73 = .ok (.iload 6, 2) := by decide +kernel
theorem dX1_follow_75 : decode cX1_follow 75 = .ok (.iaload, 1) := by decide +kernel
theorem dX1_follow_76 : decode cX1_follow 76 = .ok (.invokestatic 74, 3) := by decide +kernel
theorem dX1_follow_79 : decode cX1_follow 79 = .ok (.istore 8, 2) := by decide +kernel
theorem dX1_follow_81 : decode cX1_follow 81 = .ok (.aload_n 3, 1) := by decide +kernel
theorem dX1_follow_82 : decode cX1_follow 82 = .ok (.iload 8, 2) := by decide +kernel
theorem dX1_follow_84 : decode cX1_follow 84 = .ok (.baload, 1) := by decide +kernel
theorem dX1_follow_85 : decode cX1_follow 85 = .ok (.ifCond .ne 20, 3) := by decide +kernel
theorem dX1_follow_88 : decode cX1_follow 88 = .ok (.aload_n 3, 1) := by decide +kernel
theorem dX1_follow_89 : decode cX1_follow 89 = .ok (.iload 8, 2) := by decide +kernel
theorem dX1_follow_91 : decode cX1_follow 91 = .ok (.iconst 1, 1) := by decide +kernel
theorem dX1_follow_92 : decode cX1_follow 92 = .ok (.bastore, 1) := by decide +kernel
theorem dX1_follow_93 : decode cX1_follow 93 = .ok (.aload_n 0, 1) := by decide +kernel
theorem dX1_follow_94 : decode cX1_follow 94 = .ok (.getfield 38, 3) := by decide +kernel
theorem dX1_follow_97 : decode cX1_follow 97 = .ok (.iload 4, 2) := by decide +kernel
theorem dX1_follow_99 : decode cX1_follow 99 = .ok (.iload 8, 2) := by decide +kernel
theorem dX1_follow_101 : decode cX1_follow 101 = .ok (.iastore, 1) := by decide +kernel
theorem dX1_follow_102 : decode cX1_follow 102 = .ok (.iinc 4 1, 3) := by decide +kernel
theorem dX1_follow_105 : decode cX1_follow 105 = .ok (.aload_n 0, 1) := by decide +kernel
theorem dX1_follow_106 : decode cX1_follow 106 = .ok (.getfield 35, 3) := by decide +kernel
theorem dX1_follow_109 : decode cX1_follow 109 = .ok (.iload 6, 2) := by decide +kernel
theorem dX1_follow_111 : decode cX1_follow 111 = .ok (.iaload, 1) := by decide +kernel
theorem dX1_follow_112 : decode cX1_follow 112 = .ok (.istore 6, 2) := by decide +kernel
theorem dX1_follow_114 : decode cX1_follow 114 = .ok (.iinc 7 1, 3) := by decide +kernel
theorem dX1_follow_117 : decode cX1_follow 117 = .ok (.goto (-79), 3) := by decide +kernel
theorem dX1_follow_120 : decode cX1_follow 120 = .ok (.iinc 5 1, 3) := by decide +kernel
theorem dX1_follow_123 : decode cX1_follow 123 = .ok (.goto (-117), 3) := by decide +kernel
theorem dX1_follow_126 : decode cX1_follow 126 = .ok (.iload 4, 2) := by decide +kernel
theorem dX1_follow_128 : decode cX1_follow 128 = .ok (.ireturn, 1) := by decide +kernel
set_option maxRecDepth 20000 in
theorem ggX1_gatherUseful_X7_fromOf : GoodIn wsX1_gatherUseful wsX7_fromOf := goodIn_g _ [(9, 1)] (by exact rfl) (by decide +kernel)
set_option maxRecDepth 20000 in
theorem gX1_gatherUseful_X7_fromOf_n74 : GoodIn wsX1_gatherUseful (wsX7_fromOf) := ggX1_gatherUseful_X7_fromOf
set_option maxRecDepth 20000 in
theorem ggX1_gatherUseful_X7_toOf : GoodIn wsX1_gatherUseful wsX7_toOf := goodIn_g _ [(11, 1)] (by exact rfl) (by decide +kernel)
set_option maxRecDepth 20000 in
theorem gX1_gatherUseful_X7_toOf_n85 : GoodIn wsX1_gatherUseful (wsX7_toOf) := ggX1_gatherUseful_X7_toOf
set_option maxRecDepth 20000 in
theorem ggX1_gatherUseful_X0_put : GoodIn wsX1_gatherUseful wsX0_put := goodIn_g _ [(16, 15), (15, 1), (31, 1), (45, 3)] (by exact rfl) (by decide +kernel)
set_option maxRecDepth 20000 in
theorem gX1_gatherUseful_X0_put : GoodIn wsX1_gatherUseful (wsV RX1 133 RX0 yX0_put wsX0_put) := goodIn_app (goodIn_of _ (by decide +kernel)) ggX1_gatherUseful_X0_put
theorem dX1_gatherUseful_0 : decode cX1_gatherUseful 0 = .ok (.aload_n 0, 1) := by decide +kernel
theorem dX1_gatherUseful_1 : decode cX1_gatherUseful 1 = .ok (.getfield 53, 3) := by decide +kernel
theorem dX1_gatherUseful_4 : decode cX1_gatherUseful 4 = .ok (.iconst 0, 1) := by decide +kernel
theorem dX1_gatherUseful_5 : decode cX1_gatherUseful 5 = .ok (.putfield 72, 3) := by decide +kernel
theorem dX1_gatherUseful_8 : decode cX1_gatherUseful 8 = .ok (.iconst 0, 1) := by decide +kernel
theorem dX1_gatherUseful_9 : decode cX1_gatherUseful 9 = .ok (.istore_n 1, 1) := by decide +kernel
theorem dX1_gatherUseful_10 : decode cX1_gatherUseful 10 = .ok (.iload_n 1, 1) := by decide +kernel
theorem dX1_gatherUseful_11 : decode cX1_gatherUseful 11 = .ok (.aload_n 0, 1) := by decide +kernel
theorem dX1_gatherUseful_12 : decode cX1_gatherUseful 12 = .ok (.getfield 29, 3) := by decide +kernel
theorem dX1_gatherUseful_15 : decode cX1_gatherUseful 15 = .ok (.if_icmp .ge 67, 3) := by decide +kernel
theorem dX1_gatherUseful_18 : decode cX1_gatherUseful 18 = .ok (.aload_n 0, 1) := by decide +kernel
theorem dX1_gatherUseful_19 : decode cX1_gatherUseful 19 = .ok (.getfield 44, 3) := by decide +kernel
theorem dX1_gatherUseful_22 : decode cX1_gatherUseful 22 = .ok (.aload_n 0, 1) := by decide +kernel
theorem dX1_gatherUseful_23 : decode cX1_gatherUseful 23 = .ok (.getfield 9, 3) := by decide +kernel
theorem dX1_gatherUseful_26 : decode cX1_gatherUseful 26 = .ok (.iload_n 1, 1) := by decide +kernel
theorem dX1_gatherUseful_27 : decode cX1_gatherUseful 27 = .ok (.iaload, 1) := by decide +kernel
theorem dX1_gatherUseful_28 : decode cX1_gatherUseful 28 = .ok (.invokestatic 74, 3) := by decide +kernel
theorem dX1_gatherUseful_31 : decode cX1_gatherUseful 31 = .ok (.baload, 1) := by decide +kernel
theorem dX1_gatherUseful_32 : decode cX1_gatherUseful 32 = .ok (.ifCond .eq 44, 3) := by decide +kernel
theorem dX1_gatherUseful_35 : decode cX1_gatherUseful 35 = .ok (.aload_n 0, 1) := by decide +kernel
theorem dX1_gatherUseful_36 : decode cX1_gatherUseful 36 = .ok (.getfield 44, 3) := by decide +kernel
theorem dX1_gatherUseful_39 : decode cX1_gatherUseful 39 = .ok (.aload_n 0, 1) := by decide +kernel
theorem dX1_gatherUseful_40 : decode cX1_gatherUseful 40 = .ok (.getfield 9, 3) := by decide +kernel
theorem dX1_gatherUseful_43 : decode cX1_gatherUseful 43 = .ok (.iload_n 1, 1) := by decide +kernel
theorem dX1_gatherUseful_44 : decode cX1_gatherUseful 44 = .ok (.iaload, 1) := by decide +kernel
theorem dX1_gatherUseful_45 : decode cX1_gatherUseful 45 = .ok (.invokestatic 85, 3) := by decide +kernel
theorem dX1_gatherUseful_48 : decode cX1_gatherUseful 48 = .ok (.baload, 1) := by decide +kernel
theorem dX1_gatherUseful_49 : decode cX1_gatherUseful 49 = .ok (.ifCond .eq 27, 3) := by decide +kernel
theorem dX1_gatherUseful_52 : decode cX1_gatherUseful 52 = .ok (.aload_n 0, 1) := by decide +kernel
theorem dX1_gatherUseful_53 : decode cX1_gatherUseful 53 = .ok (.getfield 53, 3) := by decide +kernel
theorem dX1_gatherUseful_56 : decode cX1_gatherUseful 56 = .ok (.aload_n 0, 1) := by decide +kernel
theorem dX1_gatherUseful_57 : decode cX1_gatherUseful 57 = .ok (.getfield 9, 3) := by decide +kernel
theorem dX1_gatherUseful_60 : decode cX1_gatherUseful 60 = .ok (.iload_n 1, 1) := by decide +kernel
theorem dX1_gatherUseful_61 : decode cX1_gatherUseful 61 = .ok (.iaload, 1) := by decide +kernel
theorem dX1_gatherUseful_62 : decode cX1_gatherUseful 62 = .ok (.aload_n 0, 1) := by decide +kernel
theorem dX1_gatherUseful_63 : decode cX1_gatherUseful 63 = .ok (.getfield 15, 3) := by decide +kernel
theorem dX1_gatherUseful_66 : decode cX1_gatherUseful 66 = .ok (.iload_n 1, 1) := by decide +kernel
theorem dX1_gatherUseful_67 : decode cX1_gatherUseful 67 = .ok (.iaload, 1) := by decide +kernel
theorem dX1_gatherUseful_68 : decode cX1_gatherUseful 68 = .ok (.invokevirtual 133, 3) := by decide +kernel
theorem dX1_gatherUseful_71 : decode cX1_gatherUseful 71 = .ok (.ifCond .ne 5, 3) := by decide +kernel
theorem dX1_gatherUseful_74 : decode cX1_gatherUseful 74 = .ok (.iconst 0, 1) := by decide +kernel
theorem dX1_gatherUseful_75 : decode cX1_gatherUseful 75 = .ok (.ireturn, 1) := by decide +kernel
theorem dX1_gatherUseful_76 : decode cX1_gatherUseful 76 = .ok (.iinc 1 1, 3) := by decide +kernel
theorem dX1_gatherUseful_79 : decode cX1_gatherUseful 79 = .ok (.goto (-69), 3) := by decide +kernel
theorem dX1_gatherUseful_82 : decode cX1_gatherUseful 82 = .ok (.iconst 1, 1) := by decide +kernel
theorem dX1_gatherUseful_83 : decode cX1_gatherUseful 83 = .ok (.ireturn, 1) := by decide +kernel
set_option maxRecDepth 20000 in
theorem ggX1_numberStates_X0_firstPlaceFrom : GoodIn wsX1_numberStates wsX0_firstPlaceFrom := goodIn_g _ [(11, 7), (10, 1), (18, 3), (36, 3)] (by exact rfl) (by decide +kernel)
set_option maxRecDepth 20000 in
theorem gX1_numberStates_X0_firstPlaceFrom : GoodIn wsX1_numberStates (wsV RX1 136 RX0 yX0_firstPlaceFrom wsX0_firstPlaceFrom) := goodIn_app (goodIn_of _ (by decide +kernel)) ggX1_numberStates_X0_firstPlaceFrom
set_option maxRecDepth 20000 in
theorem ggX1_numberStates_X7_toOf : GoodIn wsX1_numberStates wsX7_toOf := goodIn_g _ [(22, 1)] (by exact rfl) (by decide +kernel)
set_option maxRecDepth 20000 in
theorem gX1_numberStates_X7_toOf_n85 : GoodIn wsX1_numberStates (wsX7_toOf) := ggX1_numberStates_X7_toOf
theorem dX1_numberStates_0 : decode cX1_numberStates 0 = .ok (.iconst 0, 1) := by decide +kernel
theorem dX1_numberStates_1 : decode cX1_numberStates 1 = .ok (.istore_n 1, 1) := by decide +kernel
theorem dX1_numberStates_2 : decode cX1_numberStates 2 = .ok (.iload_n 1, 1) := by decide +kernel
theorem dX1_numberStates_3 : decode cX1_numberStates 3 = .ok (.aload_n 0, 1) := by decide +kernel
theorem dX1_numberStates_4 : decode cX1_numberStates 4 = .ok (.getfield 22, 3) := by decide +kernel
theorem dX1_numberStates_7 : decode cX1_numberStates 7 = .ok (.if_icmp .ge 16, 3) := by decide +kernel
theorem dX1_numberStates_10 : decode cX1_numberStates 10 = .ok (.aload_n 0, 1) := by decide +kernel
theorem dX1_numberStates_11 : decode cX1_numberStates 11 = .ok (.getfield 47, 3) := by decide +kernel
theorem dX1_numberStates_14 : decode cX1_numberStates 14 = .ok (.iload_n 1, 1) := by decide +kernel
theorem dX1_numberStates_15 : decode cX1_numberStates 15 = .ok (.iconst (-1), 1) := by decide +kernel
theorem dX1_numberStates_16 : decode cX1_numberStates 16 = .ok (.iastore, 1) := by decide +kernel
theorem dX1_numberStates_17 : decode cX1_numberStates 17 = .ok (.iinc 1 1, 3) := by decide +kernel
theorem dX1_numberStates_20 : decode cX1_numberStates 20 = .ok (.goto (-18), 3) := by decide +kernel
theorem dX1_numberStates_23 : decode cX1_numberStates 23 = .ok (.aload_n 0, 1) := by decide +kernel
theorem dX1_numberStates_24 : decode cX1_numberStates 24 = .ok (.getfield 47, 3) := by decide +kernel
theorem dX1_numberStates_27 : decode cX1_numberStates 27 = .ok (.aload_n 0, 1) := by decide +kernel
theorem dX1_numberStates_28 : decode cX1_numberStates 28 = .ok (.getfield 26, 3) := by decide +kernel
theorem dX1_numberStates_31 : decode cX1_numberStates 31 = .ok (.iconst 0, 1) := by decide +kernel
theorem dX1_numberStates_32 : decode cX1_numberStates 32 = .ok (.iastore, 1) := by decide +kernel
theorem dX1_numberStates_33 : decode cX1_numberStates 33 = .ok (.aload_n 0, 1) := by decide +kernel
theorem dX1_numberStates_34 : decode cX1_numberStates 34 = .ok (.getfield 38, 3) := by decide +kernel
theorem dX1_numberStates_37 : decode cX1_numberStates 37 = .ok (.iconst 0, 1) := by decide +kernel
theorem dX1_numberStates_38 : decode cX1_numberStates 38 = .ok (.aload_n 0, 1) := by decide +kernel
theorem dX1_numberStates_39 : decode cX1_numberStates 39 = .ok (.getfield 26, 3) := by decide +kernel
theorem dX1_numberStates_42 : decode cX1_numberStates 42 = .ok (.iastore, 1) := by decide +kernel
theorem dX1_numberStates_43 : decode cX1_numberStates 43 = .ok (.iconst 1, 1) := by decide +kernel
theorem dX1_numberStates_44 : decode cX1_numberStates 44 = .ok (.istore_n 1, 1) := by decide +kernel
theorem dX1_numberStates_45 : decode cX1_numberStates 45 = .ok (.iconst 0, 1) := by decide +kernel
theorem dX1_numberStates_46 : decode cX1_numberStates 46 = .ok (.istore_n 2, 1) := by decide +kernel
theorem dX1_numberStates_47 : decode cX1_numberStates 47 = .ok (.iload_n 2, 1) := by decide +kernel
theorem dX1_numberStates_48 : decode cX1_numberStates 48 = .ok (.iload_n 1, 1) := by decide +kernel
theorem dX1_numberStates_49 : decode cX1_numberStates 49 = .ok (.if_icmp .ge 103, 3) := by decide +kernel
theorem dX1_numberStates_52 : decode cX1_numberStates 52 = .ok (.iload_n 2, 1) := by decide +kernel
theorem dX1_numberStates_53 : decode cX1_numberStates 53 = .ok (.bipush 32, 2) := by decide +kernel
theorem dX1_numberStates_55 : decode cX1_numberStates 55 = .ok (.if_icmp .ge 97, 3) := by decide +kernel
theorem dX1_numberStates_58 : decode cX1_numberStates 58 = .ok (.aload_n 0, 1) := by decide +kernel
theorem dX1_numberStates_59 : decode cX1_numberStates 59 = .ok (.getfield 53, 3) := by decide +kernel
theorem dX1_numberStates_62 : decode cX1_numberStates 62 = .ok (.aload_n 0, 1) := by decide +kernel
theorem dX1_numberStates_63 : decode cX1_numberStates 63 = .ok (.getfield 38, 3) := by decide +kernel
theorem dX1_numberStates_66 : decode cX1_numberStates 66 = .ok (.iload_n 2, 1) := by decide +kernel
theorem dX1_numberStates_67 : decode cX1_numberStates 67 = .ok (.iaload, 1) := by decide +kernel
theorem dX1_numberStates_68 : decode cX1_numberStates 68 = .ok (.iconst 1, 1) := by decide +kernel
theorem dX1_numberStates_69 : decode cX1_numberStates 69 = .ok (.iadd, 1) := by decide +kernel
theorem dX1_numberStates_70 : decode cX1_numberStates 70 = .ok (.invokevirtual 136, 3) := by decide +kernel
theorem dX1_numberStates_73 : decode cX1_numberStates 73 = .ok (.istore_n 3, 1) := by decide +kernel
theorem dX1_numberStates_74 : decode cX1_numberStates 74 = .ok (.aload_n 0, 1) := by decide +kernel
theorem dX1_numberStates_75 : decode cX1_numberStates 75 = .ok (.getfield 53, 3) := by decide +kernel
theorem dX1_numberStates_78 : decode cX1_numberStates 78 = .ok (.aload_n 0, 1) := by decide +kernel
theorem dX1_numberStates_79 : decode cX1_numberStates 79 = .ok (.getfield 38, 3) := by decide +kernel
theorem dX1_numberStates_82 : decode cX1_numberStates 82 = .ok (.iload_n 2, 1) := by decide +kernel
theorem dX1_numberStates_83 : decode cX1_numberStates 83 = .ok (.iaload, 1) := by decide +kernel
theorem dX1_numberStates_84 : decode cX1_numberStates 84 = .ok (.invokevirtual 136, 3) := by decide +kernel
theorem dX1_numberStates_87 : decode cX1_numberStates 87 = .ok (.istore 4, 2) := by decide +kernel
theorem dX1_numberStates_89 : decode cX1_numberStates 89 = .ok (.iload 4, 2) := by decide +kernel
theorem dX1_numberStates_91 : decode cX1_numberStates 91 = .ok (.iload_n 3, 1) := by decide +kernel
theorem dX1_numberStates_92 : decode cX1_numberStates 92 = .ok (.if_icmp .ge 54, 3) := by decide +kernel
theorem dX1_numberStates_95 : decode cX1_numberStates 95 = .ok (.aload_n 0, 1) := by decide +kernel
theorem dX1_numberStates_96 : decode cX1_numberStates 96 = .ok (.getfield 53, 3) := by decide +kernel
theorem dX1_numberStates_99 : decode cX1_numberStates 99 = .ok (.getfield 73, 3) := by decide +kernel
theorem dX1_numberStates_102 : decode cX1_numberStates 102 = .ok (.iload 4, 2) := by decide +kernel
theorem dX1_numberStates_104 : decode cX1_numberStates 104 = .ok (.iaload, 1) := by decide +kernel
theorem dX1_numberStates_105 : decode cX1_numberStates 105 = .ok (.invokestatic 85, 3) := by decide +kernel
theorem dX1_numberStates_108 : decode cX1_numberStates 108 = .ok (.istore 5, 2) := by decide +kernel
theorem dX1_numberStates_110 : decode cX1_numberStates 110 = .ok (.aload_n 0, 1) := by decide +kernel
theorem dX1_numberStates_111 : decode cX1_numberStates 111 = .ok (.getfield 47, 3) := by decide +kernel
theorem dX1_numberStates_114 : decode cX1_numberStates 114 = .ok (.iload 5, 2) := by decide +kernel
theorem dX1_numberStates_116 : decode cX1_numberStates 116 = .ok (.iaload, 1) := by decide +kernel
theorem dX1_numberStates_117 : decode cX1_numberStates 117 = .ok (.iconst (-1), 1) := by decide +kernel
theorem dX1_numberStates_118 : decode cX1_numberStates 118 = .ok (.if_icmp .ne 22, 3) := by decide +kernel
theorem dX1_numberStates_121 : decode cX1_numberStates 121 = .ok (.aload_n 0, 1) := by decide +kernel
theorem dX1_numberStates_122 : decode cX1_numberStates 122 = .ok (.getfield 47, 3) := by decide +kernel
theorem dX1_numberStates_125 : decode cX1_numberStates 125 = .ok (.iload 5, 2) := by decide +kernel
theorem dX1_numberStates_127 : decode cX1_numberStates 127 = .ok (.iload_n 1, 1) := by decide +kernel
theorem dX1_numberStates_128 : decode cX1_numberStates 128 = .ok (.iastore, 1) := by decide +kernel
theorem dX1_numberStates_129 : decode cX1_numberStates 129 = .ok (.aload_n 0, 1) := by decide +kernel
theorem dX1_numberStates_130 : decode cX1_numberStates 130 = .ok (.getfield 38, 3) := by decide +kernel
theorem dX1_numberStates_133 : decode cX1_numberStates 133 = .ok (.iload_n 1, 1) := by decide +kernel
theorem dX1_numberStates_134 : decode cX1_numberStates 134 = .ok (.iload 5, 2) := by decide +kernel
theorem dX1_numberStates_136 : decode cX1_numberStates 136 = .ok (.iastore, 1) := by decide +kernel
theorem dX1_numberStates_137 : decode cX1_numberStates 137 = .ok (.iinc 1 1, 3) := by decide +kernel
theorem dX1_numberStates_140 : decode cX1_numberStates 140 = .ok (.iinc 4 1, 3) := by decide +kernel
theorem dX1_numberStates_143 : decode cX1_numberStates 143 = .ok (.goto (-54), 3) := by decide +kernel
theorem dX1_numberStates_146 : decode cX1_numberStates 146 = .ok (.iinc 2 1, 3) := by decide +kernel
theorem dX1_numberStates_149 : decode cX1_numberStates 149 = .ok (.goto (-102), 3) := by decide +kernel
theorem dX1_numberStates_152 : decode cX1_numberStates 152 = .ok (.iload_n 1, 1) := by decide +kernel
theorem dX1_numberStates_153 : decode cX1_numberStates 153 = .ok (.ireturn, 1) := by decide +kernel
set_option maxRecDepth 20000 in
theorem ggX1_writeArcs_X7_fromOf : GoodIn wsX1_writeArcs wsX7_fromOf := goodIn_g _ [(9, 1)] (by exact rfl) (by decide +kernel)
set_option maxRecDepth 20000 in
theorem gX1_writeArcs_X7_fromOf_n74 : GoodIn wsX1_writeArcs (wsX7_fromOf) := ggX1_writeArcs_X7_fromOf
set_option maxRecDepth 20000 in
theorem ggX1_writeArcs_X7_upperOf : GoodIn wsX1_writeArcs wsX7_upperOf := goodIn_g _ [(11, 1)] (by exact rfl) (by decide +kernel)
set_option maxRecDepth 20000 in
theorem gX1_writeArcs_X7_upperOf_n78 : GoodIn wsX1_writeArcs (wsX7_upperOf) := ggX1_writeArcs_X7_upperOf
set_option maxRecDepth 20000 in
theorem ggX1_writeArcs_X7_lowerOf : GoodIn wsX1_writeArcs wsX7_lowerOf := goodIn_g _ [(13, 1)] (by exact rfl) (by decide +kernel)
set_option maxRecDepth 20000 in
theorem gX1_writeArcs_X7_lowerOf_n81 : GoodIn wsX1_writeArcs (wsX7_lowerOf) := ggX1_writeArcs_X7_lowerOf
set_option maxRecDepth 20000 in
theorem ggX1_writeArcs_X7_toOf : GoodIn wsX1_writeArcs wsX7_toOf := goodIn_g _ [(15, 1)] (by exact rfl) (by decide +kernel)
set_option maxRecDepth 20000 in
theorem gX1_writeArcs_X7_toOf_n85 : GoodIn wsX1_writeArcs (wsX7_toOf) := ggX1_writeArcs_X7_toOf
set_option maxRecDepth 20000 in
theorem ggX1_writeArcs_X7_packedArc : GoodIn wsX1_writeArcs wsX7_packedArc := goodIn_g _ [(17, 1)] (by exact rfl) (by decide +kernel)
set_option maxRecDepth 20000 in
theorem gX1_writeArcs_X7_packedArc_n63 : GoodIn wsX1_writeArcs (wsX7_packedArc) := ggX1_writeArcs_X7_packedArc
set_option maxRecDepth 20000 in
theorem ggX1_writeArcs_X0_put : GoodIn wsX1_writeArcs wsX0_put := goodIn_g _ [(22, 15), (21, 1), (37, 1), (51, 3)] (by exact rfl) (by decide +kernel)
set_option maxRecDepth 20000 in
theorem gX1_writeArcs_X0_put : GoodIn wsX1_writeArcs (wsV RX1 133 RX0 yX0_put wsX0_put) := goodIn_app (goodIn_of _ (by decide +kernel)) ggX1_writeArcs_X0_put
theorem dX1_writeArcs_0 : decode cX1_writeArcs 0 = .ok (.iconst 0, 1) := by decide +kernel
theorem dX1_writeArcs_1 : decode cX1_writeArcs 1 = .ok (.istore_n 2, 1) := by decide +kernel
theorem dX1_writeArcs_2 : decode cX1_writeArcs 2 = .ok (.iload_n 2, 1) := by decide +kernel
theorem dX1_writeArcs_3 : decode cX1_writeArcs 3 = .ok (.aload_n 0, 1) := by decide +kernel
theorem dX1_writeArcs_4 : decode cX1_writeArcs 4 = .ok (.getfield 53, 3) := by decide +kernel
theorem dX1_writeArcs_7 : decode cX1_writeArcs 7 = .ok (.getfield 72, 3) := by decide +kernel
theorem dX1_writeArcs_10 : decode cX1_writeArcs 10 = .ok (.if_icmp .ge 73, 3) := by decide +kernel
theorem dX1_writeArcs_13 : decode cX1_writeArcs 13 = .ok (.aload_n 0, 1) := by decide +kernel
theorem dX1_writeArcs_14 : decode cX1_writeArcs 14 = .ok (.getfield 53, 3) := by decide +kernel
theorem dX1_writeArcs_17 : decode cX1_writeArcs 17 = .ok (.getfield 73, 3) := by decide +kernel
theorem dX1_writeArcs_20 : decode cX1_writeArcs 20 = .ok (.iload_n 2, 1) := by decide +kernel
theorem dX1_writeArcs_21 : decode cX1_writeArcs 21 = .ok (.iaload, 1) := by decide +kernel
theorem dX1_writeArcs_22 : decode cX1_writeArcs 22 = .ok (.istore_n 3, 1) := by decide +kernel
theorem dX1_writeArcs_23 : decode cX1_writeArcs 23 = .ok (.aload_n 0, 1) := by decide +kernel
theorem dX1_writeArcs_24 : decode cX1_writeArcs 24 = .ok (.getfield 47, 3) := by decide +kernel
theorem dX1_writeArcs_27 : decode cX1_writeArcs 27 = .ok (.iload_n 3, 1) := by decide +kernel
theorem dX1_writeArcs_28 : decode cX1_writeArcs 28 = .ok (.invokestatic 74, 3) := by decide +kernel
theorem dX1_writeArcs_31 : decode cX1_writeArcs 31 = .ok (.iaload, 1) := by decide +kernel
theorem dX1_writeArcs_32 : decode cX1_writeArcs 32 = .ok (.iload_n 3, 1) := by decide +kernel
theorem dX1_writeArcs_33 : decode cX1_writeArcs 33 = .ok (.invokestatic 78, 3) := by decide +kernel
theorem dX1_writeArcs_36 : decode cX1_writeArcs 36 = .ok (.iload_n 3, 1) := by decide +kernel
theorem dX1_writeArcs_37 : decode cX1_writeArcs 37 = .ok (.invokestatic 81, 3) := by decide +kernel
theorem dX1_writeArcs_40 : decode cX1_writeArcs 40 = .ok (.aload_n 0, 1) := by decide +kernel
theorem dX1_writeArcs_41 : decode cX1_writeArcs 41 = .ok (.getfield 47, 3) := by decide +kernel
theorem dX1_writeArcs_44 : decode cX1_writeArcs 44 = .ok (.iload_n 3, 1) := by decide +kernel
theorem dX1_writeArcs_45 : decode cX1_writeArcs 45 = .ok (.invokestatic 85, 3) := by decide +kernel
theorem dX1_writeArcs_48 : decode cX1_writeArcs 48 = .ok (.iaload, 1) := by decide +kernel
theorem dX1_writeArcs_49 : decode cX1_writeArcs 49 = .ok (.invokestatic 63, 3) := by decide +kernel
theorem dX1_writeArcs_52 : decode cX1_writeArcs 52 = .ok (.istore 4, 2) := by decide +kernel
theorem dX1_writeArcs_54 : decode cX1_writeArcs 54 = .ok (.aload_n 1, 1) := by decide +kernel
theorem dX1_writeArcs_55 : decode cX1_writeArcs 55 = .ok (.getfield 67, 3) := by decide +kernel
theorem dX1_writeArcs_58 : decode cX1_writeArcs 58 = .ok (.iload 4, 2) := by decide +kernel
theorem dX1_writeArcs_60 : decode cX1_writeArcs 60 = .ok (.aload_n 0, 1) := by decide +kernel
theorem dX1_writeArcs_61 : decode cX1_writeArcs 61 = .ok (.getfield 53, 3) := by decide +kernel
theorem dX1_writeArcs_64 : decode cX1_writeArcs 64 = .ok (.getfield 84, 3) := by decide +kernel
theorem dX1_writeArcs_67 : decode cX1_writeArcs 67 = .ok (.iload_n 2, 1) := by decide +kernel
theorem dX1_writeArcs_68 : decode cX1_writeArcs 68 = .ok (.iaload, 1) := by decide +kernel
theorem dX1_writeArcs_69 : decode cX1_writeArcs 69 = .ok (.invokevirtual 133, 3) := by decide +kernel
theorem dX1_writeArcs_72 : decode cX1_writeArcs 72 = .ok (.ifCond .ne 5, 3) := by decide +kernel
theorem dX1_writeArcs_75 : decode cX1_writeArcs 75 = .ok (.iconst 0, 1) := by decide +kernel
theorem dX1_writeArcs_76 : decode cX1_writeArcs 76 = .ok (.ireturn, 1) := by decide +kernel
theorem dX1_writeArcs_77 : decode cX1_writeArcs 77 = .ok (.iinc 2 1, 3) := by decide +kernel
theorem dX1_writeArcs_80 : decode cX1_writeArcs 80 = .ok (.goto (-78), 3) := by decide +kernel
theorem dX1_writeArcs_83 : decode cX1_writeArcs 83 = .ok (.iconst 1, 1) := by decide +kernel
theorem dX1_writeArcs_84 : decode cX1_writeArcs 84 = .ok (.ireturn, 1) := by decide +kernel
theorem dX1_writeEnds_0 : decode cX1_writeEnds 0 = .ok (.iconst 0, 1) := by decide +kernel
theorem dX1_writeEnds_1 : decode cX1_writeEnds 1 = .ok (.istore_n 2, 1) := by decide +kernel
theorem dX1_writeEnds_2 : decode cX1_writeEnds 2 = .ok (.iload_n 2, 1) := by decide +kernel
theorem dX1_writeEnds_3 : decode cX1_writeEnds 3 = .ok (.aload_n 1, 1) := by decide +kernel
theorem dX1_writeEnds_4 : decode cX1_writeEnds 4 = .ok (.getfield 92, 3) := by decide +kernel
theorem dX1_writeEnds_7 : decode cX1_writeEnds 7 = .ok (.if_icmp .ge 35, 3) := by decide +kernel
theorem dX1_writeEnds_10 : decode cX1_writeEnds 10 = .ok (.aload_n 0, 1) := by decide +kernel
theorem dX1_writeEnds_11 : decode cX1_writeEnds 11 = .ok (.getfield 18, 3) := by decide +kernel
theorem dX1_writeEnds_14 : decode cX1_writeEnds 14 = .ok (.aload_n 0, 1) := by decide +kernel
theorem dX1_writeEnds_15 : decode cX1_writeEnds 15 = .ok (.getfield 38, 3) := by decide +kernel
theorem dX1_writeEnds_18 : decode cX1_writeEnds 18 = .ok (.iload_n 2, 1) := by decide +kernel
theorem dX1_writeEnds_19 : decode cX1_writeEnds 19 = .ok (.iaload, 1) := by decide +kernel
theorem dX1_writeEnds_20 : decode cX1_writeEnds 20 = .ok (.baload, 1) := by decide +kernel
theorem dX1_writeEnds_21 : decode cX1_writeEnds 21 = .ok (.ifCond .eq 15, 3) := by decide +kernel
theorem dX1_writeEnds_24 : decode cX1_writeEnds 24 = .ok (.aload_n 1, 1) := by decide +kernel
theorem dX1_writeEnds_25 : decode cX1_writeEnds 25 = .ok (.dup, 1) := by decide +kernel
theorem dX1_writeEnds_26 : decode cX1_writeEnds 26 = .ok (.getfield 93, 3) := by decide +kernel
theorem dX1_writeEnds_29 : decode cX1_writeEnds 29 = .ok (.iconst 1, 1) := by decide +kernel
theorem dX1_writeEnds_30 : decode cX1_writeEnds 30 = .ok (.iload_n 2, 1) := by decide +kernel
theorem dX1_writeEnds_31 : decode cX1_writeEnds 31 = .ok (.ishl, 1) := by decide +kernel
theorem dX1_writeEnds_32 : decode cX1_writeEnds 32 = .ok (.ior, 1) := by decide +kernel
theorem dX1_writeEnds_33 : decode cX1_writeEnds 33 = .ok (.putfield 93, 3) := by decide +kernel
theorem dX1_writeEnds_36 : decode cX1_writeEnds 36 = .ok (.iinc 2 1, 3) := by decide +kernel
theorem dX1_writeEnds_39 : decode cX1_writeEnds 39 = .ok (.goto (-37), 3) := by decide +kernel
theorem dX1_writeEnds_42 : decode cX1_writeEnds 42 = .ok (.return_, 1) := by decide +kernel
theorem dX2_init_0 : decode cX2_init 0 = .ok (.aload_n 0, 1) := by decide +kernel
theorem dX2_init_1 : decode cX2_init 1 = .ok (.invokespecial 3, 3) := by decide +kernel
theorem dX2_init_4 : decode cX2_init 4 = .ok (.aload_n 0, 1) := by decide +kernel
theorem dX2_init_5 : decode cX2_init 5 = .ok (.sipush 240, 3) := by decide +kernel
theorem dX2_init_8 : decode cX2_init 8 = .ok (.newarray .int, 2) := by decide +kernel
theorem dX2_init_10 : decode cX2_init 10 = .ok (.putfield 9, 3) := by decide +kernel
theorem dX2_init_13 : decode cX2_init 13 = .ok (.aload_n 0, 1) := by decide +kernel
theorem dX2_init_14 : decode cX2_init 14 = .ok (.bipush 30, 2) := by decide +kernel
theorem dX2_init_16 : decode cX2_init 16 = .ok (.newarray .int, 2) := by decide +kernel
theorem dX2_init_18 : decode cX2_init 18 = .ok (.putfield 15, 3) := by decide +kernel
theorem dX2_init_21 : decode cX2_init 21 = .ok (.aload_n 0, 1) := by decide +kernel
theorem dX2_init_22 : decode cX2_init 22 = .ok (.bipush 30, 2) := by decide +kernel
theorem dX2_init_24 : decode cX2_init 24 = .ok (.newarray .int, 2) := by decide +kernel
theorem dX2_init_26 : decode cX2_init 26 = .ok (.putfield 18, 3) := by decide +kernel
theorem dX2_init_29 : decode cX2_init 29 = .ok (.aload_n 0, 1) := by decide +kernel
theorem dX2_init_30 : decode cX2_init 30 = .ok (.bipush 30, 2) := by decide +kernel
theorem dX2_init_32 : decode cX2_init 32 = .ok (.newarray .int, 2) := by decide +kernel
theorem dX2_init_34 : decode cX2_init 34 = .ok (.putfield 21, 3) := by decide +kernel
theorem dX2_init_37 : decode cX2_init 37 = .ok (.aload_n 0, 1) := by decide +kernel
theorem dX2_init_38 : decode cX2_init 38 = .ok (.bipush 6, 2) := by decide +kernel
theorem dX2_init_40 : decode cX2_init 40 = .ok (.newarray .int, 2) := by decide +kernel
theorem dX2_init_42 : decode cX2_init 42 = .ok (.putfield 24, 3) := by decide +kernel
theorem dX2_init_45 : decode cX2_init 45 = .ok (.aload_n 0, 1) := by decide +kernel
theorem dX2_init_46 : decode cX2_init 46 = .ok (.iconst 0, 1) := by decide +kernel
theorem dX2_init_47 : decode cX2_init 47 = .ok (.putfield 27, 3) := by decide +kernel
theorem dX2_init_50 : decode cX2_init 50 = .ok (.return_, 1) := by decide +kernel
set_option maxRecDepth 20000 in
theorem ggX3_init_X0_init : GoodIn wsX3_init wsX0_init := goodIn_g _ [(11, 2), (2, 2), (13, 7)] (by exact rfl) (by decide +kernel)
set_option maxRecDepth 20000 in
theorem gX3_init_X0_init_n11 : GoodIn wsX3_init (wsX0_init) := ggX3_init_X0_init
theorem dX3_init_0 : decode cX3_init 0 = .ok (.aload_n 0, 1) := by decide +kernel
theorem dX3_init_1 : decode cX3_init 1 = .ok (.invokespecial 3, 3) := by decide +kernel
theorem dX3_init_4 : decode cX3_init 4 = .ok (.aload_n 0, 1) := by decide +kernel
theorem dX3_init_5 : decode cX3_init 5 = .ok (.new 9, 3) := by decide +kernel
theorem dX3_init_8 : decode cX3_init 8 = .ok (.dup, 1) := by decide +kernel
theorem dX3_init_9 : decode cX3_init 9 = .ok (.invokespecial 11, 3) := by decide +kernel
theorem dX3_init_12 : decode cX3_init 12 = .ok (.putfield 12, 3) := by decide +kernel
theorem dX3_init_15 : decode cX3_init 15 = .ok (.aload_n 0, 1) := by decide +kernel
theorem dX3_init_16 : decode cX3_init 16 = .ok (.iconst 1, 1) := by decide +kernel
theorem dX3_init_17 : decode cX3_init 17 = .ok (.putfield 18, 3) := by decide +kernel
theorem dX3_init_20 : decode cX3_init 20 = .ok (.aload_n 0, 1) := by decide +kernel
theorem dX3_init_21 : decode cX3_init 21 = .ok (.iconst 0, 1) := by decide +kernel
theorem dX3_init_22 : decode cX3_init 22 = .ok (.putfield 22, 3) := by decide +kernel
theorem dX3_init_25 : decode cX3_init 25 = .ok (.return_, 1) := by decide +kernel
set_option maxRecDepth 20000 in
theorem ggX3_hasPlainArcsAlone_X7_upperOf : GoodIn wsX3_hasPlainArcsAlone wsX7_upperOf := goodIn_g _ [(7, 1)] (by exact rfl) (by decide +kernel)
set_option maxRecDepth 20000 in
theorem gX3_hasPlainArcsAlone_X7_upperOf_n32 : GoodIn wsX3_hasPlainArcsAlone (wsX7_upperOf) := ggX3_hasPlainArcsAlone_X7_upperOf
set_option maxRecDepth 20000 in
theorem ggX3_hasPlainArcsAlone_X7_lowerOf : GoodIn wsX3_hasPlainArcsAlone wsX7_lowerOf := goodIn_g _ [(9, 1)] (by exact rfl) (by decide +kernel)
set_option maxRecDepth 20000 in
theorem gX3_hasPlainArcsAlone_X7_lowerOf_n36 : GoodIn wsX3_hasPlainArcsAlone (wsX7_lowerOf) := ggX3_hasPlainArcsAlone_X7_lowerOf
theorem dX3_hasPlainArcsAlone_0 : decode cX3_hasPlainArcsAlone 0 = .ok (.iconst 0, 1) := by decide +kernel
theorem dX3_hasPlainArcsAlone_1 : decode cX3_hasPlainArcsAlone 1 = .ok (.istore_n 1, 1) := by decide +kernel
theorem dX3_hasPlainArcsAlone_2 : decode cX3_hasPlainArcsAlone 2 = .ok (.iload_n 1, 1) := by decide +kernel
theorem dX3_hasPlainArcsAlone_3 : decode cX3_hasPlainArcsAlone 3 = .ok (.aload_n 0, 1) := by decide +kernel
theorem dX3_hasPlainArcsAlone_4 : decode cX3_hasPlainArcsAlone 4 = .ok (.getfield 12, 3) := by decide +kernel
theorem dX3_hasPlainArcsAlone_7 : decode cX3_hasPlainArcsAlone 7 = .ok (.getfield 25, 3) := by decide +kernel
theorem dX3_hasPlainArcsAlone_10 : decode cX3_hasPlainArcsAlone 10 = .ok (.if_icmp .ge 44, 3) := by decide +kernel
theorem dX3_hasPlainArcsAlone_13 : decode cX3_hasPlainArcsAlone 13 = .ok (.aload_n 0, 1) := by decide +kernel
theorem dX3_hasPlainArcsAlone_14 : decode cX3_hasPlainArcsAlone 14 = .ok (.getfield 12, 3) := by decide +kernel
theorem dX3_hasPlainArcsAlone_17 : decode cX3_hasPlainArcsAlone 17 = .ok (.getfield 28, 3) := by decide +kernel
theorem dX3_hasPlainArcsAlone_20 : decode cX3_hasPlainArcsAlone 20 = .ok (.iload_n 1, 1) := by decide +kernel
theorem dX3_hasPlainArcsAlone_21 : decode cX3_hasPlainArcsAlone 21 = .ok (.iaload, 1) := by decide +kernel
theorem dX3_hasPlainArcsAlone_22 : decode cX3_hasPlainArcsAlone 22 = .ok (.istore_n 2, 1) := by decide +kernel
theorem dX3_hasPlainArcsAlone_23 : decode cX3_hasPlainArcsAlone 23 = .ok (.iload_n 2, 1) := by decide +kernel
theorem dX3_hasPlainArcsAlone_24 : decode cX3_hasPlainArcsAlone 24 = .ok (.invokestatic 32, 3) := by decide +kernel
theorem dX3_hasPlainArcsAlone_27 : decode cX3_hasPlainArcsAlone 27 = .ok (.iload_n 2, 1) := by decide +kernel
theorem dX3_hasPlainArcsAlone_28 : decode cX3_hasPlainArcsAlone 28 = .ok (.invokestatic 36, 3) := by decide +kernel
theorem dX3_hasPlainArcsAlone_31 : decode cX3_hasPlainArcsAlone 31 = .ok (.if_icmp .ne 15, 3) := by decide +kernel
theorem dX3_hasPlainArcsAlone_34 : decode cX3_hasPlainArcsAlone 34 = .ok (.aload_n 0, 1) := by decide +kernel
theorem dX3_hasPlainArcsAlone_35 : decode cX3_hasPlainArcsAlone 35 = .ok (.getfield 12, 3) := by decide +kernel
theorem dX3_hasPlainArcsAlone_38 : decode cX3_hasPlainArcsAlone 38 = .ok (.getfield 39, 3) := by decide +kernel
theorem dX3_hasPlainArcsAlone_41 : decode cX3_hasPlainArcsAlone 41 = .ok (.iload_n 1, 1) := by decide +kernel
theorem dX3_hasPlainArcsAlone_42 : decode cX3_hasPlainArcsAlone 42 = .ok (.iaload, 1) := by decide +kernel
theorem dX3_hasPlainArcsAlone_43 : decode cX3_hasPlainArcsAlone 43 = .ok (.ifCond .eq 5, 3) := by decide +kernel
theorem dX3_hasPlainArcsAlone_46 : decode cX3_hasPlainArcsAlone 46 = .ok (.iconst 0, 1) := by decide +kernel
theorem dX3_hasPlainArcsAlone_47 : decode cX3_hasPlainArcsAlone 47 = .ok (.ireturn, 1) := by decide +kernel
theorem dX3_hasPlainArcsAlone_48 : decode cX3_hasPlainArcsAlone 48 = .ok (.iinc 1 1, 3) := by decide +kernel
theorem dX3_hasPlainArcsAlone_51 : decode cX3_hasPlainArcsAlone 51 = .ok (.goto (-49), 3) := by decide +kernel
theorem dX3_hasPlainArcsAlone_54 : decode cX3_hasPlainArcsAlone 54 = .ok (.iconst 1, 1) := by decide +kernel
theorem dX3_hasPlainArcsAlone_55 : decode cX3_hasPlainArcsAlone 55 = .ok (.ireturn, 1) := by decide +kernel
set_option maxRecDepth 20000 in
theorem ggX3_relatesEmpty_X7_upperOf : GoodIn wsX3_relatesEmpty wsX7_upperOf := goodIn_g _ [(8, 1)] (by exact rfl) (by decide +kernel)
set_option maxRecDepth 20000 in
theorem gX3_relatesEmpty_X7_upperOf_n32 : GoodIn wsX3_relatesEmpty (wsX7_upperOf) := ggX3_relatesEmpty_X7_upperOf
set_option maxRecDepth 20000 in
theorem ggX3_relatesEmpty_X7_lowerOf : GoodIn wsX3_relatesEmpty wsX7_lowerOf := goodIn_g _ [(10, 1)] (by exact rfl) (by decide +kernel)
set_option maxRecDepth 20000 in
theorem gX3_relatesEmpty_X7_lowerOf_n36 : GoodIn wsX3_relatesEmpty (wsX7_lowerOf) := ggX3_relatesEmpty_X7_lowerOf
set_option maxRecDepth 20000 in
theorem ggX3_relatesEmpty_X7_fromOf : GoodIn wsX3_relatesEmpty wsX7_fromOf := goodIn_g _ [(12, 1)] (by exact rfl) (by decide +kernel)
set_option maxRecDepth 20000 in
theorem gX3_relatesEmpty_X7_fromOf_n42 : GoodIn wsX3_relatesEmpty (wsX7_fromOf) := ggX3_relatesEmpty_X7_fromOf
set_option maxRecDepth 20000 in
theorem ggX3_relatesEmpty_X7_holds : GoodIn wsX3_relatesEmpty wsX7_holds := goodIn_g _ [(14, 1)] (by exact rfl) (by decide +kernel)
set_option maxRecDepth 20000 in
theorem gX3_relatesEmpty_X7_holds_n45 : GoodIn wsX3_relatesEmpty (wsX7_holds) := ggX3_relatesEmpty_X7_holds
set_option maxRecDepth 20000 in
theorem ggX3_relatesEmpty_X7_toOf : GoodIn wsX3_relatesEmpty wsX7_toOf := goodIn_g _ [(16, 1)] (by exact rfl) (by decide +kernel)
set_option maxRecDepth 20000 in
theorem gX3_relatesEmpty_X7_toOf_n49 : GoodIn wsX3_relatesEmpty (wsX7_toOf) := ggX3_relatesEmpty_X7_toOf
theorem dX3_relatesEmpty_0 : decode cX3_relatesEmpty 0 = .ok (.iconst 1, 1) := by decide +kernel
theorem dX3_relatesEmpty_1 : decode cX3_relatesEmpty 1 = .ok (.istore_n 2, 1) := by decide +kernel
theorem dX3_relatesEmpty_2 : decode cX3_relatesEmpty 2 = .ok (.iconst 1, 1) := by decide +kernel
theorem dX3_relatesEmpty_3 : decode cX3_relatesEmpty 3 = .ok (.istore_n 3, 1) := by decide +kernel
theorem dX3_relatesEmpty_4 : decode cX3_relatesEmpty 4 = .ok (.iconst 0, 1) := by decide +kernel
theorem dX3_relatesEmpty_5 : decode cX3_relatesEmpty 5 = .ok (.istore 4, 2) := by decide +kernel
theorem dX3_relatesEmpty_7 : decode cX3_relatesEmpty 7 = .ok (.iload_n 3, 1) := by decide +kernel
theorem dX3_relatesEmpty_8 : decode cX3_relatesEmpty 8 = .ok (.ifCond .eq 115, 3) := by decide +kernel
theorem dX3_relatesEmpty_11 : decode cX3_relatesEmpty 11 = .ok (.iload 4, 2) := by decide +kernel
theorem dX3_relatesEmpty_13 : decode cX3_relatesEmpty 13 = .ok (.aload_n 0, 1) := by decide +kernel
theorem dX3_relatesEmpty_14 : decode cX3_relatesEmpty 14 = .ok (.getfield 18, 3) := by decide +kernel
theorem dX3_relatesEmpty_17 : decode cX3_relatesEmpty 17 = .ok (.if_icmp .ge 106, 3) := by decide +kernel
theorem dX3_relatesEmpty_20 : decode cX3_relatesEmpty 20 = .ok (.iconst 0, 1) := by decide +kernel
theorem dX3_relatesEmpty_21 : decode cX3_relatesEmpty 21 = .ok (.istore_n 3, 1) := by decide +kernel
theorem dX3_relatesEmpty_22 : decode cX3_relatesEmpty 22 = .ok (.iconst 0, 1) := by decide +kernel
theorem dX3_relatesEmpty_23 : decode cX3_relatesEmpty 23 = .ok (.istore 5, 2) := by decide +kernel
theorem dX3_relatesEmpty_25 : decode cX3_relatesEmpty 25 = .ok (.iload 5, 2) := by decide +kernel
theorem dX3_relatesEmpty_27 : decode cX3_relatesEmpty 27 = .ok (.aload_n 0, 1) := by decide +kernel
theorem dX3_relatesEmpty_28 : decode cX3_relatesEmpty 28 = .ok (.getfield 12, 3) := by decide +kernel
theorem dX3_relatesEmpty_31 : decode cX3_relatesEmpty 31 = .ok (.getfield 25, 3) := by decide +kernel
theorem dX3_relatesEmpty_34 : decode cX3_relatesEmpty 34 = .ok (.if_icmp .ge 83, 3) := by decide +kernel
theorem dX3_relatesEmpty_37 : decode cX3_relatesEmpty 37 = .ok (.aload_n 0, 1) := by decide +kernel
theorem dX3_relatesEmpty_38 : decode cX3_relatesEmpty 38 = .ok (.getfield 12, 3) := by decide +kernel
theorem dX3_relatesEmpty_41 : decode cX3_relatesEmpty 41 = .ok (.getfield 28, 3) := by decide +kernel
theorem dX3_relatesEmpty_44 : decode cX3_relatesEmpty 44 = .ok (.iload 5, 2) := by decide +kernel
theorem dX3_relatesEmpty_46 : decode cX3_relatesEmpty 46 = .ok (.iaload, 1) := by decide +kernel
theorem dX3_relatesEmpty_47 : decode cX3_relatesEmpty 47 = .ok (.istore 6, 2) := by decide +kernel
theorem dX3_relatesEmpty_49 : decode cX3_relatesEmpty 49 = .ok (.iload_n 1, 1) := by decide +kernel
theorem dX3_relatesEmpty_50 : decode cX3_relatesEmpty 50 = .ok (.ifCond .eq 11, 3) := by decide +kernel
theorem dX3_relatesEmpty_53 : decode cX3_relatesEmpty 53 = .ok (.iload 6, 2) := by decide +kernel
theorem dX3_relatesEmpty_55 : decode cX3_relatesEmpty 55 = .ok (.invokestatic 32, 3) := by decide +kernel
theorem dX3_relatesEmpty_58 : decode cX3_relatesEmpty 58 = .ok (.goto 8, 3) := by decide +kernel
theorem dX3_relatesEmpty_61 : decode cX3_relatesEmpty 61 = .ok (.iload 6, 2) := by decide +kernel
theorem dX3_relatesEmpty_63 : decode cX3_relatesEmpty 63 = .ok (.invokestatic 36, 3) := by decide +kernel
theorem dX3_relatesEmpty_66 : decode cX3_relatesEmpty 66 = .ok (.istore 7, 2) := by decide +kernel
theorem dX3_relatesEmpty_68 : decode cX3_relatesEmpty 68 = .ok (.iload 7, 2) := by decide +kernel
theorem dX3_relatesEmpty_70 : decode cX3_relatesEmpty 70 = .ok (.bipush 8, 2) := by decide +kernel
theorem dX3_relatesEmpty_72 : decode cX3_relatesEmpty 72 = .ok (.if_icmp .ne 39, 3) := by decide +kernel
theorem dX3_relatesEmpty_75 : decode cX3_relatesEmpty 75 = .ok (.iload_n 2, 1) := by decide +kernel
theorem dX3_relatesEmpty_76 : decode cX3_relatesEmpty 76 = .ok (.iload 6, 2) := by decide +kernel
theorem dX3_relatesEmpty_78 : decode cX3_relatesEmpty 78 = .ok (.invokestatic 42, 3) := by decide +kernel
theorem dX3_relatesEmpty_81 : decode cX3_relatesEmpty 81 = .ok (.invokestatic 45, 3) := by decide +kernel
theorem dX3_relatesEmpty_84 : decode cX3_relatesEmpty 84 = .ok (.ifCond .eq 27, 3) := by decide +kernel
theorem dX3_relatesEmpty_87 : decode cX3_relatesEmpty 87 = .ok (.iload_n 2, 1) := by decide +kernel
theorem dX3_relatesEmpty_88 : decode cX3_relatesEmpty 88 = .ok (.iload 6, 2) := by decide +kernel
theorem dX3_relatesEmpty_90 : decode cX3_relatesEmpty 90 = .ok (.invokestatic 49, 3) := by decide +kernel
theorem dX3_relatesEmpty_93 : decode cX3_relatesEmpty 93 = .ok (.invokestatic 45, 3) := by decide +kernel
theorem dX3_relatesEmpty_96 : decode cX3_relatesEmpty 96 = .ok (.ifCond .ne 15, 3) := by decide +kernel
theorem dX3_relatesEmpty_99 : decode cX3_relatesEmpty 99 = .ok (.iload_n 2, 1) := by decide +kernel
theorem dX3_relatesEmpty_100 : decode cX3_relatesEmpty 100 = .ok (.iconst 1, 1) := by decide +kernel
theorem dX3_relatesEmpty_101 : decode cX3_relatesEmpty 101 = .ok (.iload 6, 2) := by decide +kernel
theorem dX3_relatesEmpty_103 : decode cX3_relatesEmpty 103 = .ok (.invokestatic 49, 3) := by decide +kernel
theorem dX3_relatesEmpty_106 : decode cX3_relatesEmpty 106 = .ok (.ishl, 1) := by decide +kernel
theorem dX3_relatesEmpty_107 : decode cX3_relatesEmpty 107 = .ok (.ior, 1) := by decide +kernel
theorem dX3_relatesEmpty_108 : decode cX3_relatesEmpty 108 = .ok (.istore_n 2, 1) := by decide +kernel
theorem dX3_relatesEmpty_109 : decode cX3_relatesEmpty 109 = .ok (.iconst 1, 1) := by decide +kernel
theorem dX3_relatesEmpty_110 : decode cX3_relatesEmpty 110 = .ok (.istore_n 3, 1) := by decide +kernel
theorem dX3_relatesEmpty_111 : decode cX3_relatesEmpty 111 = .ok (.iinc 5 1, 3) := by decide +kernel
theorem dX3_relatesEmpty_114 : decode cX3_relatesEmpty 114 = .ok (.goto (-89), 3) := by decide +kernel
theorem dX3_relatesEmpty_117 : decode cX3_relatesEmpty 117 = .ok (.iinc 4 1, 3) := by decide +kernel
theorem dX3_relatesEmpty_120 : decode cX3_relatesEmpty 120 = .ok (.goto (-113), 3) := by decide +kernel
theorem dX3_relatesEmpty_123 : decode cX3_relatesEmpty 123 = .ok (.iload_n 2, 1) := by decide +kernel
theorem dX3_relatesEmpty_124 : decode cX3_relatesEmpty 124 = .ok (.aload_n 0, 1) := by decide +kernel
theorem dX3_relatesEmpty_125 : decode cX3_relatesEmpty 125 = .ok (.getfield 22, 3) := by decide +kernel
theorem dX3_relatesEmpty_128 : decode cX3_relatesEmpty 128 = .ok (.iand, 1) := by decide +kernel
theorem dX3_relatesEmpty_129 : decode cX3_relatesEmpty 129 = .ok (.ifCond .eq 7, 3) := by decide +kernel
theorem dX3_relatesEmpty_132 : decode cX3_relatesEmpty 132 = .ok (.iconst 1, 1) := by decide +kernel
theorem dX3_relatesEmpty_133 : decode cX3_relatesEmpty 133 = .ok (.goto 4, 3) := by decide +kernel
theorem dX3_relatesEmpty_136 : decode cX3_relatesEmpty 136 = .ok (.iconst 0, 1) := by decide +kernel
theorem dX3_relatesEmpty_137 : decode cX3_relatesEmpty 137 = .ok (.ireturn, 1) := by decide +kernel
set_option maxRecDepth 20000 in
theorem ggX4_init_X3_init : GoodIn wsX4_init wsX3_init := goodIn_g _ [(23, 2), (2, 2), (25, 9), (4, 1), (34, 3), (54, 3), (51, 3)] (by exact rfl) (by decide +kernel)
set_option maxRecDepth 20000 in
theorem gX4_init_X3_init_n21 : GoodIn wsX4_init (wsX3_init) := ggX4_init_X3_init
theorem dX4_init_0 : decode cX4_init 0 = .ok (.aload_n 0, 1) := by decide +kernel
theorem dX4_init_1 : decode cX4_init 1 = .ok (.invokespecial 5, 3) := by decide +kernel
theorem dX4_init_4 : decode cX4_init 4 = .ok (.aload_n 0, 1) := by decide +kernel
theorem dX4_init_5 : decode cX4_init 5 = .ok (.bipush 8, 2) := by decide +kernel
theorem dX4_init_7 : decode cX4_init 7 = .ok (.newarray .int, 2) := by decide +kernel
theorem dX4_init_9 : decode cX4_init 9 = .ok (.putfield 11, 3) := by decide +kernel
theorem dX4_init_12 : decode cX4_init 12 = .ok (.aload_n 0, 1) := by decide +kernel
theorem dX4_init_13 : decode cX4_init 13 = .ok (.iconst 0, 1) := by decide +kernel
theorem dX4_init_14 : decode cX4_init 14 = .ok (.putfield 15, 3) := by decide +kernel
theorem dX4_init_17 : decode cX4_init 17 = .ok (.aload_n 0, 1) := by decide +kernel
theorem dX4_init_18 : decode cX4_init 18 = .ok (.new 19, 3) := by decide +kernel
theorem dX4_init_21 : decode cX4_init 21 = .ok (.dup, 1) := by decide +kernel
theorem dX4_init_22 : decode cX4_init 22 = .ok (.invokespecial 21, 3) := by decide +kernel
theorem dX4_init_25 : decode cX4_init 25 = .ok (.putfield 22, 3) := by decide +kernel
theorem dX4_init_28 : decode cX4_init 28 = .ok (.aload_n 0, 1) := by decide +kernel
theorem dX4_init_29 : decode cX4_init 29 = .ok (.iconst 0, 1) := by decide +kernel
theorem dX4_init_30 : decode cX4_init 30 = .ok (.putfield 26, 3) := by decide +kernel
theorem dX4_init_33 : decode cX4_init 33 = .ok (.aload_n 0, 1) := by decide +kernel
theorem dX4_init_34 : decode cX4_init 34 = .ok (.iconst 0, 1) := by decide +kernel
theorem dX4_init_35 : decode cX4_init 35 = .ok (.putfield 29, 3) := by decide +kernel
theorem dX4_init_38 : decode cX4_init 38 = .ok (.aload_n 0, 1) := by decide +kernel
theorem dX4_init_39 : decode cX4_init 39 = .ok (.sipush 160, 3) := by decide +kernel
theorem dX4_init_42 : decode cX4_init 42 = .ok (.newarray .int, 2) := by decide +kernel
theorem dX4_init_44 : decode cX4_init 44 = .ok (.putfield 33, 3) := by decide +kernel
theorem dX4_init_47 : decode cX4_init 47 = .ok (.aload_n 0, 1) := by decide +kernel
theorem dX4_init_48 : decode cX4_init 48 = .ok (.sipush 160, 3) := by decide +kernel
theorem dX4_init_51 : decode cX4_init 51 = .ok (.newarray .int, 2) := by decide +kernel
theorem dX4_init_53 : decode cX4_init 53 = .ok (.putfield 36, 3) := by decide +kernel
theorem dX4_init_56 : decode cX4_init 56 = .ok (.aload_n 0, 1) := by decide +kernel
theorem dX4_init_57 : decode cX4_init 57 = .ok (.sipush 160, 3) := by decide +kernel
theorem dX4_init_60 : decode cX4_init 60 = .ok (.newarray .int, 2) := by decide +kernel
theorem dX4_init_62 : decode cX4_init 62 = .ok (.putfield 39, 3) := by decide +kernel
theorem dX4_init_65 : decode cX4_init 65 = .ok (.aload_n 0, 1) := by decide +kernel
theorem dX4_init_66 : decode cX4_init 66 = .ok (.sipush 160, 3) := by decide +kernel
theorem dX4_init_69 : decode cX4_init 69 = .ok (.newarray .int, 2) := by decide +kernel
theorem dX4_init_71 : decode cX4_init 71 = .ok (.putfield 42, 3) := by decide +kernel
theorem dX4_init_74 : decode cX4_init 74 = .ok (.aload_n 0, 1) := by decide +kernel
theorem dX4_init_75 : decode cX4_init 75 = .ok (.sipush 288, 3) := by decide +kernel
theorem dX4_init_78 : decode cX4_init 78 = .ok (.newarray .int, 2) := by decide +kernel
theorem dX4_init_80 : decode cX4_init 80 = .ok (.putfield 45, 3) := by decide +kernel
theorem dX4_init_83 : decode cX4_init 83 = .ok (.aload_n 0, 1) := by decide +kernel
theorem dX4_init_84 : decode cX4_init 84 = .ok (.sipush 2592, 3) := by decide +kernel
theorem dX4_init_87 : decode cX4_init 87 = .ok (.newarray .int, 2) := by decide +kernel
theorem dX4_init_89 : decode cX4_init 89 = .ok (.putfield 48, 3) := by decide +kernel
theorem dX4_init_92 : decode cX4_init 92 = .ok (.aload_n 0, 1) := by decide +kernel
theorem dX4_init_93 : decode cX4_init 93 = .ok (.sipush 288, 3) := by decide +kernel
theorem dX4_init_96 : decode cX4_init 96 = .ok (.newarray .int, 2) := by decide +kernel
theorem dX4_init_98 : decode cX4_init 98 = .ok (.putfield 51, 3) := by decide +kernel
theorem dX4_init_101 : decode cX4_init 101 = .ok (.aload_n 0, 1) := by decide +kernel
theorem dX4_init_102 : decode cX4_init 102 = .ok (.sipush 288, 3) := by decide +kernel
theorem dX4_init_105 : decode cX4_init 105 = .ok (.newarray .int, 2) := by decide +kernel
theorem dX4_init_107 : decode cX4_init 107 = .ok (.putfield 54, 3) := by decide +kernel
theorem dX4_init_110 : decode cX4_init 110 = .ok (.aload_n 0, 1) := by decide +kernel
theorem dX4_init_111 : decode cX4_init 111 = .ok (.iconst 0, 1) := by decide +kernel
theorem dX4_init_112 : decode cX4_init 112 = .ok (.putfield 57, 3) := by decide +kernel
theorem dX4_init_115 : decode cX4_init 115 = .ok (.return_, 1) := by decide +kernel
set_option maxRecDepth 20000 in
theorem ggX4_begin_X4_takeArcsApart : GoodIn wsX4_begin wsX4_takeArcsApart := goodIn_g _ [(18, 1), (1, 1), (19, 5), (12, 1), (24, 11), (73, 20)] (by exact rfl) (by decide +kernel)
set_option maxRecDepth 20000 in
theorem gX4_begin_X4_takeArcsApart : GoodIn wsX4_begin (wsV RX4 72 RX4 yX4_takeArcsApart wsX4_takeArcsApart) := goodIn_app (goodIn_of _ (by decide +kernel)) ggX4_begin_X4_takeArcsApart
set_option maxRecDepth 20000 in
theorem ggX4_begin_X4_measure : GoodIn wsX4_begin wsX4_measure := goodIn_g _ [(38, 1), (6, 1), (1, 1), (39, 5), (27, 1), (44, 3), (17, 1), (47, 5), (19, 2), (22, 1), (25, 1), (52, 4), (23, 1), (12, 1), (7, 1), (56, 37)] (by exact rfl) (by decide +kernel)
