set_option maxRecDepth 20000 in
theorem gX4_begin_X4_measure : GoodIn wsX4_begin (wsV RX4 75 RX4 yX4_measure wsX4_measure) := goodIn_app (goodIn_of _ (by decide +kernel)) ggX4_begin_X4_measure
theorem dX4_begin_0 : decode cX4_begin 0 = .ok (.aload_n 0, 1) := by decide +kernel
theorem dX4_begin_1 : decode cX4_begin 1 = .ok (.aload_n 1, 1) := by decide +kernel
theorem dX4_begin_2 : decode cX4_begin 2 = .ok (.putfield 22, 3) := by decide +kernel
theorem dX4_begin_5 : decode cX4_begin 5 = .ok (.aload_n 0, 1) := by decide +kernel
theorem dX4_begin_6 : decode cX4_begin 6 = .ok (.iload_n 3, 1) := by decide +kernel
theorem dX4_begin_7 : decode cX4_begin 7 = .ok (.aload_n 2, 1) := by decide +kernel
theorem dX4_begin_8 : decode cX4_begin 8 = .ok (.arraylength, 1) := by decide +kernel
theorem dX4_begin_9 : decode cX4_begin 9 = .ok (.invokestatic 60, 3) := by decide +kernel
theorem dX4_begin_12 : decode cX4_begin 12 = .ok (.bipush 8, 2) := by decide +kernel
theorem dX4_begin_14 : decode cX4_begin 14 = .ok (.invokestatic 60, 3) := by decide +kernel
theorem dX4_begin_17 : decode cX4_begin 17 = .ok (.putfield 15, 3) := by decide +kernel
theorem dX4_begin_20 : decode cX4_begin 20 = .ok (.aload_n 2, 1) := by decide +kernel
theorem dX4_begin_21 : decode cX4_begin 21 = .ok (.iconst 0, 1) := by decide +kernel
theorem dX4_begin_22 : decode cX4_begin 22 = .ok (.aload_n 0, 1) := by decide +kernel
theorem dX4_begin_23 : decode cX4_begin 23 = .ok (.getfield 11, 3) := by decide +kernel
theorem dX4_begin_26 : decode cX4_begin 26 = .ok (.iconst 0, 1) := by decide +kernel
theorem dX4_begin_27 : decode cX4_begin 27 = .ok (.aload_n 0, 1) := by decide +kernel
theorem dX4_begin_28 : decode cX4_begin 28 = .ok (.getfield 15, 3) := by decide +kernel
theorem dX4_begin_31 : decode cX4_begin 31 = .ok (.invokestatic 66, 3) := by decide +kernel
theorem dX4_begin_34 : decode cX4_begin 34 = .ok (.aload_n 0, 1) := by decide +kernel
theorem dX4_begin_35 : decode cX4_begin 35 = .ok (.iload 4, 2) := by decide +kernel
theorem dX4_begin_37 : decode cX4_begin 37 = .ok (.putfield 26, 3) := by decide +kernel
theorem dX4_begin_40 : decode cX4_begin 40 = .ok (.aload_n 0, 1) := by decide +kernel
theorem dX4_begin_41 : decode cX4_begin 41 = .ok (.iconst 0, 1) := by decide +kernel
theorem dX4_begin_42 : decode cX4_begin 42 = .ok (.putfield 57, 3) := by decide +kernel
theorem dX4_begin_45 : decode cX4_begin 45 = .ok (.aload_n 0, 1) := by decide +kernel
theorem dX4_begin_46 : decode cX4_begin 46 = .ok (.invokevirtual 72, 3) := by decide +kernel
theorem dX4_begin_49 : decode cX4_begin 49 = .ok (.aload_n 0, 1) := by decide +kernel
theorem dX4_begin_50 : decode cX4_begin 50 = .ok (.invokevirtual 75, 3) := by decide +kernel
theorem dX4_begin_53 : decode cX4_begin 53 = .ok (.return_, 1) := by decide +kernel
set_option maxRecDepth 20000 in
theorem ggX4_takeArcsApart_X7_fromOf : GoodIn wsX4_takeArcsApart wsX7_fromOf := goodIn_g _ [(12, 1)] (by exact rfl) (by decide +kernel)
set_option maxRecDepth 20000 in
theorem gX4_takeArcsApart_X7_fromOf_n90 : GoodIn wsX4_takeArcsApart (wsX7_fromOf) := ggX4_takeArcsApart_X7_fromOf
set_option maxRecDepth 20000 in
theorem ggX4_takeArcsApart_X7_lowerOf : GoodIn wsX4_takeArcsApart wsX7_lowerOf := goodIn_g _ [(14, 1)] (by exact rfl) (by decide +kernel)
set_option maxRecDepth 20000 in
theorem gX4_takeArcsApart_X7_lowerOf_n94 : GoodIn wsX4_takeArcsApart (wsX7_lowerOf) := ggX4_takeArcsApart_X7_lowerOf
set_option maxRecDepth 20000 in
theorem ggX4_takeArcsApart_X7_upperOf : GoodIn wsX4_takeArcsApart wsX7_upperOf := goodIn_g _ [(16, 1)] (by exact rfl) (by decide +kernel)
set_option maxRecDepth 20000 in
theorem gX4_takeArcsApart_X7_upperOf_n97 : GoodIn wsX4_takeArcsApart (wsX7_upperOf) := ggX4_takeArcsApart_X7_upperOf
set_option maxRecDepth 20000 in
theorem ggX4_takeArcsApart_X7_toOf : GoodIn wsX4_takeArcsApart wsX7_toOf := goodIn_g _ [(18, 1)] (by exact rfl) (by decide +kernel)
set_option maxRecDepth 20000 in
theorem gX4_takeArcsApart_X7_toOf_n100 : GoodIn wsX4_takeArcsApart (wsX7_toOf) := ggX4_takeArcsApart_X7_toOf
theorem dX4_takeArcsApart_0 : decode cX4_takeArcsApart 0 = .ok (.iconst 0, 1) := by decide +kernel
theorem dX4_takeArcsApart_1 : decode cX4_takeArcsApart 1 = .ok (.istore_n 1, 1) := by decide +kernel
theorem dX4_takeArcsApart_2 : decode cX4_takeArcsApart 2 = .ok (.iload_n 1, 1) := by decide +kernel
theorem dX4_takeArcsApart_3 : decode cX4_takeArcsApart 3 = .ok (.aload_n 0, 1) := by decide +kernel
theorem dX4_takeArcsApart_4 : decode cX4_takeArcsApart 4 = .ok (.getfield 22, 3) := by decide +kernel
theorem dX4_takeArcsApart_7 : decode cX4_takeArcsApart 7 = .ok (.getfield 78, 3) := by decide +kernel
theorem dX4_takeArcsApart_10 : decode cX4_takeArcsApart 10 = .ok (.getfield 82, 3) := by decide +kernel
theorem dX4_takeArcsApart_13 : decode cX4_takeArcsApart 13 = .ok (.if_icmp .ge 91, 3) := by decide +kernel
theorem dX4_takeArcsApart_16 : decode cX4_takeArcsApart 16 = .ok (.aload_n 0, 1) := by decide +kernel
theorem dX4_takeArcsApart_17 : decode cX4_takeArcsApart 17 = .ok (.getfield 22, 3) := by decide +kernel
theorem dX4_takeArcsApart_20 : decode cX4_takeArcsApart 20 = .ok (.getfield 78, 3) := by decide +kernel
theorem dX4_takeArcsApart_23 : decode cX4_takeArcsApart 23 = .ok (.getfield 87, 3) := by decide +kernel
theorem dX4_takeArcsApart_26 : decode cX4_takeArcsApart 26 = .ok (.iload_n 1, 1) := by decide +kernel
theorem dX4_takeArcsApart_27 : decode cX4_takeArcsApart 27 = .ok (.iaload, 1) := by decide +kernel
theorem dX4_takeArcsApart_28 : decode cX4_takeArcsApart 28 = .ok (.istore_n 2, 1) := by decide +kernel
theorem dX4_takeArcsApart_29 : decode cX4_takeArcsApart 29 = .ok (.aload_n 0, 1) := by decide +kernel
theorem dX4_takeArcsApart_30 : decode cX4_takeArcsApart 30 = .ok (.getfield 33, 3) := by decide +kernel
theorem dX4_takeArcsApart_33 : decode cX4_takeArcsApart 33 = .ok (.iload_n 1, 1) := by decide +kernel
theorem dX4_takeArcsApart_34 : decode cX4_takeArcsApart 34 = .ok (.iload_n 2, 1) := by decide +kernel
theorem dX4_takeArcsApart_35 : decode cX4_takeArcsApart 35 = .ok (.invokestatic 90, 3) := by decide +kernel
theorem dX4_takeArcsApart_38 : decode cX4_takeArcsApart 38 = .ok (.iastore, 1) := by decide +kernel
theorem dX4_takeArcsApart_39 : decode cX4_takeArcsApart 39 = .ok (.aload_n 0, 1) := by decide +kernel
theorem dX4_takeArcsApart_40 : decode cX4_takeArcsApart 40 = .ok (.getfield 36, 3) := by decide +kernel
theorem dX4_takeArcsApart_43 : decode cX4_takeArcsApart 43 = .ok (.iload_n 1, 1) := by decide +kernel
theorem dX4_takeArcsApart_44 : decode cX4_takeArcsApart 44 = .ok (.aload_n 0, 1) := by decide +kernel
theorem dX4_takeArcsApart_45 : decode cX4_takeArcsApart 45 = .ok (.getfield 26, 3) := by decide +kernel
theorem dX4_takeArcsApart_48 : decode cX4_takeArcsApart 48 = .ok (.iconst 1, 1) := by decide +kernel
theorem dX4_takeArcsApart_49 : decode cX4_takeArcsApart 49 = .ok (.if_icmp .ne 10, 3) := by decide +kernel
theorem dX4_takeArcsApart_52 : decode cX4_takeArcsApart 52 = .ok (.iload_n 2, 1) := by decide +kernel
theorem dX4_takeArcsApart_53 : decode cX4_takeArcsApart 53 = .ok (.invokestatic 94, 3) := by decide +kernel
theorem dX4_takeArcsApart_56 : decode cX4_takeArcsApart 56 = .ok (.goto 7, 3) := by decide +kernel
theorem dX4_takeArcsApart_59 : decode cX4_takeArcsApart 59 = .ok (.iload_n 2, 1) := by decide +kernel
theorem dX4_takeArcsApart_60 : decode cX4_takeArcsApart 60 = .ok (.invokestatic 97, 3) := by decide +kernel
theorem dX4_takeArcsApart_63 : decode cX4_takeArcsApart 63 = .ok (.iastore, 1) := by decide +kernel
theorem dX4_takeArcsApart_64 : decode cX4_takeArcsApart 64 = .ok (.aload_n 0, 1) := by decide +kernel
theorem dX4_takeArcsApart_65 : decode cX4_takeArcsApart 65 = .ok (.getfield 39, 3) := by decide +kernel
theorem dX4_takeArcsApart_68 : decode cX4_takeArcsApart 68 = .ok (.iload_n 1, 1) := by decide +kernel
theorem dX4_takeArcsApart_69 : decode cX4_takeArcsApart 69 = .ok (.aload_n 0, 1) := by decide +kernel
theorem dX4_takeArcsApart_70 : decode cX4_takeArcsApart 70 = .ok (.getfield 26, 3) := by decide +kernel
theorem dX4_takeArcsApart_73 : decode cX4_takeArcsApart 73 = .ok (.ifCond .ne 10, 3) := by decide +kernel
theorem dX4_takeArcsApart_76 : decode cX4_takeArcsApart 76 = .ok (.iload_n 2, 1) := by decide +kernel
theorem dX4_takeArcsApart_77 : decode cX4_takeArcsApart 77 = .ok (.invokestatic 94, 3) := by decide +kernel
theorem dX4_takeArcsApart_80 : decode cX4_takeArcsApart 80 = .ok (.goto 7, 3) := by decide +kernel
theorem dX4_takeArcsApart_83 : decode cX4_takeArcsApart 83 = .ok (.iload_n 2, 1) := by decide +kernel
theorem dX4_takeArcsApart_84 : decode cX4_takeArcsApart 84 = .ok (.invokestatic 97, 3) := by decide +kernel
theorem dX4_takeArcsApart_87 : decode cX4_takeArcsApart 87 = .ok (.iastore, 1) := by decide +kernel
theorem dX4_takeArcsApart_88 : decode cX4_takeArcsApart 88 = .ok (.aload_n 0, 1) := by decide +kernel
theorem dX4_takeArcsApart_89 : decode cX4_takeArcsApart 89 = .ok (.getfield 42, 3) := by decide +kernel
theorem dX4_takeArcsApart_92 : decode cX4_takeArcsApart 92 = .ok (.iload_n 1, 1) := by decide +kernel
theorem dX4_takeArcsApart_93 : decode cX4_takeArcsApart 93 = .ok (.iload_n 2, 1) := by decide +kernel
theorem dX4_takeArcsApart_94 : decode cX4_takeArcsApart 94 = .ok (.invokestatic 100, 3) := by decide +kernel
theorem dX4_takeArcsApart_97 : decode cX4_takeArcsApart 97 = .ok (.iastore, 1) := by decide +kernel
theorem dX4_takeArcsApart_98 : decode cX4_takeArcsApart 98 = .ok (.iinc 1 1, 3) := by decide +kernel
theorem dX4_takeArcsApart_101 : decode cX4_takeArcsApart 101 = .ok (.goto (-99), 3) := by decide +kernel
theorem dX4_takeArcsApart_104 : decode cX4_takeArcsApart 104 = .ok (.return_, 1) := by decide +kernel
theorem dX4_leastCost_0 : decode cX4_leastCost 0 = .ok (.aload_n 0, 1) := by decide +kernel
theorem dX4_leastCost_1 : decode cX4_leastCost 1 = .ok (.getfield 45, 3) := by decide +kernel
theorem dX4_leastCost_4 : decode cX4_leastCost 4 = .ok (.iconst 0, 1) := by decide +kernel
theorem dX4_leastCost_5 : decode cX4_leastCost 5 = .ok (.iaload, 1) := by decide +kernel
theorem dX4_leastCost_6 : decode cX4_leastCost 6 = .ok (.ldc 103, 2) := by decide +kernel
theorem dX4_leastCost_8 : decode cX4_leastCost 8 = .ok (.if_icmp .lt 7, 3) := by decide +kernel
theorem dX4_leastCost_11 : decode cX4_leastCost 11 = .ok (.iconst (-1), 1) := by decide +kernel
theorem dX4_leastCost_12 : decode cX4_leastCost 12 = .ok (.goto 9, 3) := by decide +kernel
theorem dX4_leastCost_15 : decode cX4_leastCost 15 = .ok (.aload_n 0, 1) := by decide +kernel
theorem dX4_leastCost_16 : decode cX4_leastCost 16 = .ok (.getfield 45, 3) := by decide +kernel
theorem dX4_leastCost_19 : decode cX4_leastCost 19 = .ok (.iconst 0, 1) := by decide +kernel
theorem dX4_leastCost_20 : decode cX4_leastCost 20 = .ok (.iaload, 1) := by decide +kernel
theorem dX4_leastCost_21 : decode cX4_leastCost 21 = .ok (.ireturn, 1) := by decide +kernel
theorem dX4_foundLetter_0 : decode cX4_foundLetter 0 = .ok (.iload_n 1, 1) := by decide +kernel
theorem dX4_foundLetter_1 : decode cX4_foundLetter 1 = .ok (.ifCond .lt 20, 3) := by decide +kernel
theorem dX4_foundLetter_4 : decode cX4_foundLetter 4 = .ok (.iload_n 1, 1) := by decide +kernel
theorem dX4_foundLetter_5 : decode cX4_foundLetter 5 = .ok (.aload_n 0, 1) := by decide +kernel
theorem dX4_foundLetter_6 : decode cX4_foundLetter 6 = .ok (.getfield 57, 3) := by decide +kernel
theorem dX4_foundLetter_9 : decode cX4_foundLetter 9 = .ok (.if_icmp .ge 12, 3) := by decide +kernel
theorem dX4_foundLetter_12 : decode cX4_foundLetter 12 = .ok (.aload_n 0, 1) := by decide +kernel
theorem dX4_foundLetter_13 : decode cX4_foundLetter 13 = .ok (.getfield 54, 3) := by decide +kernel
theorem dX4_foundLetter_16 : decode cX4_foundLetter 16 = .ok (.iload_n 1, 1) := by decide +kernel
theorem dX4_foundLetter_17 : decode cX4_foundLetter 17 = .ok (.iaload, 1) := by decide +kernel
theorem dX4_foundLetter_18 : decode cX4_foundLetter 18 = .ok (.goto 5, 3) := by decide +kernel
theorem dX4_foundLetter_21 : decode cX4_foundLetter 21 = .ok (.bipush 8, 2) := by decide +kernel
theorem dX4_foundLetter_23 : decode cX4_foundLetter 23 = .ok (.ireturn, 1) := by decide +kernel
theorem dX4_costToStay_0 : decode cX4_costToStay 0 = .ok (.aload_n 0, 1) := by decide +kernel
theorem dX4_costToStay_1 : decode cX4_costToStay 1 = .ok (.getfield 26, 3) := by decide +kernel
theorem dX4_costToStay_4 : decode cX4_costToStay 4 = .ok (.iconst 2, 1) := by decide +kernel
theorem dX4_costToStay_5 : decode cX4_costToStay 5 = .ok (.if_icmp .ne 20, 3) := by decide +kernel
theorem dX4_costToStay_8 : decode cX4_costToStay 8 = .ok (.aload_n 0, 1) := by decide +kernel
theorem dX4_costToStay_9 : decode cX4_costToStay 9 = .ok (.getfield 36, 3) := by decide +kernel
theorem dX4_costToStay_12 : decode cX4_costToStay 12 = .ok (.iload_n 1, 1) := by decide +kernel
theorem dX4_costToStay_13 : decode cX4_costToStay 13 = .ok (.iaload, 1) := by decide +kernel
theorem dX4_costToStay_14 : decode cX4_costToStay 14 = .ok (.bipush 8, 2) := by decide +kernel
theorem dX4_costToStay_16 : decode cX4_costToStay 16 = .ok (.if_icmp .ne 7, 3) := by decide +kernel
theorem dX4_costToStay_19 : decode cX4_costToStay 19 = .ok (.iconst 0, 1) := by decide +kernel
theorem dX4_costToStay_20 : decode cX4_costToStay 20 = .ok (.goto 4, 3) := by decide +kernel
theorem dX4_costToStay_23 : decode cX4_costToStay 23 = .ok (.iconst 1, 1) := by decide +kernel
theorem dX4_costToStay_24 : decode cX4_costToStay 24 = .ok (.ireturn, 1) := by decide +kernel
theorem dX4_costToStay_25 : decode cX4_costToStay 25 = .ok (.aload_n 0, 1) := by decide +kernel
theorem dX4_costToStay_26 : decode cX4_costToStay 26 = .ok (.getfield 36, 3) := by decide +kernel
theorem dX4_costToStay_29 : decode cX4_costToStay 29 = .ok (.iload_n 1, 1) := by decide +kernel
theorem dX4_costToStay_30 : decode cX4_costToStay 30 = .ok (.iaload, 1) := by decide +kernel
theorem dX4_costToStay_31 : decode cX4_costToStay 31 = .ok (.bipush 8, 2) := by decide +kernel
theorem dX4_costToStay_33 : decode cX4_costToStay 33 = .ok (.if_icmp .ne 18, 3) := by decide +kernel
theorem dX4_costToStay_36 : decode cX4_costToStay 36 = .ok (.aload_n 0, 1) := by decide +kernel
theorem dX4_costToStay_37 : decode cX4_costToStay 37 = .ok (.getfield 22, 3) := by decide +kernel
theorem dX4_costToStay_40 : decode cX4_costToStay 40 = .ok (.getfield 78, 3) := by decide +kernel
theorem dX4_costToStay_43 : decode cX4_costToStay 43 = .ok (.getfield 104, 3) := by decide +kernel
theorem dX4_costToStay_46 : decode cX4_costToStay 46 = .ok (.iload_n 1, 1) := by decide +kernel
theorem dX4_costToStay_47 : decode cX4_costToStay 47 = .ok (.iaload, 1) := by decide +kernel
theorem dX4_costToStay_48 : decode cX4_costToStay 48 = .ok (.goto 4, 3) := by decide +kernel
theorem dX4_costToStay_51 : decode cX4_costToStay 51 = .ok (.iconst (-1), 1) := by decide +kernel
theorem dX4_costToStay_52 : decode cX4_costToStay 52 = .ok (.ireturn, 1) := by decide +kernel
theorem dX4_costToRead_0 : decode cX4_costToRead 0 = .ok (.aload_n 0, 1) := by decide +kernel
theorem dX4_costToRead_1 : decode cX4_costToRead 1 = .ok (.getfield 36, 3) := by decide +kernel
theorem dX4_costToRead_4 : decode cX4_costToRead 4 = .ok (.iload_n 1, 1) := by decide +kernel
theorem dX4_costToRead_5 : decode cX4_costToRead 5 = .ok (.iaload, 1) := by decide +kernel
theorem dX4_costToRead_6 : decode cX4_costToRead 6 = .ok (.bipush 8, 2) := by decide +kernel
theorem dX4_costToRead_8 : decode cX4_costToRead 8 = .ok (.if_icmp .eq 11, 3) := by decide +kernel
theorem dX4_costToRead_11 : decode cX4_costToRead 11 = .ok (.iload_n 2, 1) := by decide +kernel
theorem dX4_costToRead_12 : decode cX4_costToRead 12 = .ok (.aload_n 0, 1) := by decide +kernel
theorem dX4_costToRead_13 : decode cX4_costToRead 13 = .ok (.getfield 15, 3) := by decide +kernel
theorem dX4_costToRead_16 : decode cX4_costToRead 16 = .ok (.if_icmp .lt 5, 3) := by decide +kernel
theorem dX4_costToRead_19 : decode cX4_costToRead 19 = .ok (.iconst (-1), 1) := by decide +kernel
theorem dX4_costToRead_20 : decode cX4_costToRead 20 = .ok (.ireturn, 1) := by decide +kernel
theorem dX4_costToRead_21 : decode cX4_costToRead 21 = .ok (.aload_n 0, 1) := by decide +kernel
theorem dX4_costToRead_22 : decode cX4_costToRead 22 = .ok (.getfield 26, 3) := by decide +kernel
theorem dX4_costToRead_25 : decode cX4_costToRead 25 = .ok (.iconst 2, 1) := by decide +kernel
theorem dX4_costToRead_26 : decode cX4_costToRead 26 = .ok (.if_icmp .ne 24, 3) := by decide +kernel
theorem dX4_costToRead_29 : decode cX4_costToRead 29 = .ok (.aload_n 0, 1) := by decide +kernel
theorem dX4_costToRead_30 : decode cX4_costToRead 30 = .ok (.getfield 36, 3) := by decide +kernel
theorem dX4_costToRead_33 : decode cX4_costToRead 33 = .ok (.iload_n 1, 1) := by decide +kernel
theorem dX4_costToRead_34 : decode cX4_costToRead 34 = .ok (.iaload, 1) := by decide +kernel
theorem dX4_costToRead_35 : decode cX4_costToRead 35 = .ok (.aload_n 0, 1) := by decide +kernel
theorem dX4_costToRead_36 : decode cX4_costToRead 36 = .ok (.getfield 11, 3) := by decide +kernel
theorem dX4_costToRead_39 : decode cX4_costToRead 39 = .ok (.iload_n 2, 1) := by decide +kernel
theorem dX4_costToRead_40 : decode cX4_costToRead 40 = .ok (.iaload, 1) := by decide +kernel
theorem dX4_costToRead_41 : decode cX4_costToRead 41 = .ok (.if_icmp .ne 7, 3) := by decide +kernel
theorem dX4_costToRead_44 : decode cX4_costToRead 44 = .ok (.iconst 0, 1) := by decide +kernel
theorem dX4_costToRead_45 : decode cX4_costToRead 45 = .ok (.goto 4, 3) := by decide +kernel
theorem dX4_costToRead_48 : decode cX4_costToRead 48 = .ok (.iconst 1, 1) := by decide +kernel
theorem dX4_costToRead_49 : decode cX4_costToRead 49 = .ok (.ireturn, 1) := by decide +kernel
theorem dX4_costToRead_50 : decode cX4_costToRead 50 = .ok (.aload_n 0, 1) := by decide +kernel
theorem dX4_costToRead_51 : decode cX4_costToRead 51 = .ok (.getfield 36, 3) := by decide +kernel
theorem dX4_costToRead_54 : decode cX4_costToRead 54 = .ok (.iload_n 1, 1) := by decide +kernel
theorem dX4_costToRead_55 : decode cX4_costToRead 55 = .ok (.iaload, 1) := by decide +kernel
theorem dX4_costToRead_56 : decode cX4_costToRead 56 = .ok (.aload_n 0, 1) := by decide +kernel
theorem dX4_costToRead_57 : decode cX4_costToRead 57 = .ok (.getfield 11, 3) := by decide +kernel
theorem dX4_costToRead_60 : decode cX4_costToRead 60 = .ok (.iload_n 2, 1) := by decide +kernel
theorem dX4_costToRead_61 : decode cX4_costToRead 61 = .ok (.iaload, 1) := by decide +kernel
theorem dX4_costToRead_62 : decode cX4_costToRead 62 = .ok (.if_icmp .ne 18, 3) := by decide +kernel
theorem dX4_costToRead_65 : decode cX4_costToRead 65 = .ok (.aload_n 0, 1) := by decide +kernel
theorem dX4_costToRead_66 : decode cX4_costToRead 66 = .ok (.getfield 22, 3) := by decide +kernel
theorem dX4_costToRead_69 : decode cX4_costToRead 69 = .ok (.getfield 78, 3) := by decide +kernel
theorem dX4_costToRead_72 : decode cX4_costToRead 72 = .ok (.getfield 104, 3) := by decide +kernel
theorem dX4_costToRead_75 : decode cX4_costToRead 75 = .ok (.iload_n 1, 1) := by decide +kernel
theorem dX4_costToRead_76 : decode cX4_costToRead 76 = .ok (.iaload, 1) := by decide +kernel
theorem dX4_costToRead_77 : decode cX4_costToRead 77 = .ok (.goto 4, 3) := by decide +kernel
theorem dX4_costToRead_80 : decode cX4_costToRead 80 = .ok (.iconst (-1), 1) := by decide +kernel
theorem dX4_costToRead_81 : decode cX4_costToRead 81 = .ok (.ireturn, 1) := by decide +kernel
theorem dX4_costToSkip_0 : decode cX4_costToSkip 0 = .ok (.aload_n 0, 1) := by decide +kernel
theorem dX4_costToSkip_1 : decode cX4_costToSkip 1 = .ok (.getfield 26, 3) := by decide +kernel
theorem dX4_costToSkip_4 : decode cX4_costToSkip 4 = .ok (.iconst 2, 1) := by decide +kernel
theorem dX4_costToSkip_5 : decode cX4_costToSkip 5 = .ok (.if_icmp .ne 15, 3) := by decide +kernel
theorem dX4_costToSkip_8 : decode cX4_costToSkip 8 = .ok (.iload_n 1, 1) := by decide +kernel
theorem dX4_costToSkip_9 : decode cX4_costToSkip 9 = .ok (.aload_n 0, 1) := by decide +kernel
theorem dX4_costToSkip_10 : decode cX4_costToSkip 10 = .ok (.getfield 15, 3) := by decide +kernel
theorem dX4_costToSkip_13 : decode cX4_costToSkip 13 = .ok (.if_icmp .ge 7, 3) := by decide +kernel
theorem dX4_costToSkip_16 : decode cX4_costToSkip 16 = .ok (.iconst 1, 1) := by decide +kernel
theorem dX4_costToSkip_17 : decode cX4_costToSkip 17 = .ok (.goto 4, 3) := by decide +kernel
theorem dX4_costToSkip_20 : decode cX4_costToSkip 20 = .ok (.iconst (-1), 1) := by decide +kernel
theorem dX4_costToSkip_21 : decode cX4_costToSkip 21 = .ok (.ireturn, 1) := by decide +kernel
theorem dX4_cellAt_0 : decode cX4_cellAt 0 = .ok (.iload_n 0, 1) := by decide +kernel
theorem dX4_cellAt_1 : decode cX4_cellAt 1 = .ok (.bipush 32, 2) := by decide +kernel
theorem dX4_cellAt_3 : decode cX4_cellAt 3 = .ok (.imul, 1) := by decide +kernel
theorem dX4_cellAt_4 : decode cX4_cellAt 4 = .ok (.iload_n 1, 1) := by decide +kernel
theorem dX4_cellAt_5 : decode cX4_cellAt 5 = .ok (.iadd, 1) := by decide +kernel
theorem dX4_cellAt_6 : decode cX4_cellAt 6 = .ok (.ireturn, 1) := by decide +kernel
set_option maxRecDepth 20000 in
theorem ggX4_measure_X7_holds : GoodIn wsX4_measure wsX7_holds := goodIn_g _ [(9, 1)] (by exact rfl) (by decide +kernel)
set_option maxRecDepth 20000 in
theorem gX4_measure_X7_holds_n113 : GoodIn wsX4_measure (wsX7_holds) := ggX4_measure_X7_holds
set_option maxRecDepth 20000 in
theorem ggX4_measure_X4_cellAt : GoodIn wsX4_measure wsX4_cellAt := goodIn_g _ [(13, 1)] (by exact rfl) (by decide +kernel)
set_option maxRecDepth 20000 in
theorem gX4_measure_X4_cellAt : GoodIn wsX4_measure (va_wsS RX4 117 yX4_cellAt wsX4_cellAt) := goodIn_app (goodIn_of _ (by decide +kernel)) ggX4_measure_X4_cellAt
set_option maxRecDepth 20000 in
theorem ggX4_measure_X4_measureReading : GoodIn wsX4_measure wsX4_measureReading := goodIn_g _ [(17, 1), (2, 1), (18, 4), (3, 1), (10, 4), (22, 5), (1, 1), (27, 7), (5, 2), (34, 4), (46, 20)] (by exact rfl) (by decide +kernel)
set_option maxRecDepth 20000 in
theorem gX4_measure_X4_measureReading : GoodIn wsX4_measure (wsV RX4 120 RX4 yX4_measureReading wsX4_measureReading) := goodIn_app (goodIn_of _ (by decide +kernel)) ggX4_measure_X4_measureReading
set_option maxRecDepth 20000 in
theorem ggX4_measure_X4_measureStaying : GoodIn wsX4_measure wsX4_measureStaying := goodIn_g _ [(41, 1), (2, 2), (18, 4), (10, 4), (42, 4), (27, 1), (26, 1), (29, 5), (5, 2), (46, 20)] (by exact rfl) (by decide +kernel)
set_option maxRecDepth 20000 in
theorem gX4_measure_X4_measureStaying : GoodIn wsX4_measure (wsV RX4 124 RX4 yX4_measureStaying wsX4_measureStaying) := goodIn_app (goodIn_of _ (by decide +kernel)) ggX4_measure_X4_measureStaying
theorem dX4_measure_0 : decode cX4_measure 0 = .ok (.aload_n 0, 1) := by decide +kernel
theorem dX4_measure_1 : decode cX4_measure 1 = .ok (.getfield 15, 3) := by decide +kernel
theorem dX4_measure_4 : decode cX4_measure 4 = .ok (.istore_n 1, 1) := by decide +kernel
theorem dX4_measure_5 : decode cX4_measure 5 = .ok (.iload_n 1, 1) := by decide +kernel
theorem dX4_measure_6 : decode cX4_measure 6 = .ok (.ifCond .lt 86, 3) := by decide +kernel
theorem dX4_measure_9 : decode cX4_measure 9 = .ok (.iconst 0, 1) := by decide +kernel
theorem dX4_measure_10 : decode cX4_measure 10 = .ok (.istore_n 2, 1) := by decide +kernel
theorem dX4_measure_11 : decode cX4_measure 11 = .ok (.iload_n 2, 1) := by decide +kernel
theorem dX4_measure_12 : decode cX4_measure 12 = .ok (.aload_n 0, 1) := by decide +kernel
theorem dX4_measure_13 : decode cX4_measure 13 = .ok (.getfield 22, 3) := by decide +kernel
theorem dX4_measure_16 : decode cX4_measure 16 = .ok (.getfield 107, 3) := by decide +kernel
theorem dX4_measure_19 : decode cX4_measure 19 = .ok (.if_icmp .ge 57, 3) := by decide +kernel
theorem dX4_measure_22 : decode cX4_measure 22 = .ok (.iload_n 1, 1) := by decide +kernel
theorem dX4_measure_23 : decode cX4_measure 23 = .ok (.aload_n 0, 1) := by decide +kernel
theorem dX4_measure_24 : decode cX4_measure 24 = .ok (.getfield 15, 3) := by decide +kernel
theorem dX4_measure_27 : decode cX4_measure 27 = .ok (.if_icmp .ne 21, 3) := by decide +kernel
theorem dX4_measure_30 : decode cX4_measure 30 = .ok (.aload_n 0, 1) := by decide +kernel
theorem dX4_measure_31 : decode cX4_measure 31 = .ok (.getfield 22, 3) := by decide +kernel
theorem dX4_measure_34 : decode cX4_measure 34 = .ok (.getfield 110, 3) := by decide +kernel
theorem dX4_measure_37 : decode cX4_measure 37 = .ok (.iload_n 2, 1) := by decide +kernel
theorem dX4_measure_38 : decode cX4_measure 38 = .ok (.invokestatic 113, 3) := by decide +kernel
theorem dX4_measure_41 : decode cX4_measure 41 = .ok (.ifCond .eq 7, 3) := by decide +kernel
theorem dX4_measure_44 : decode cX4_measure 44 = .ok (.iconst 1, 1) := by decide +kernel
theorem dX4_measure_45 : decode cX4_measure 45 = .ok (.goto 4, 3) := by decide +kernel
theorem dX4_measure_48 : decode cX4_measure 48 = .ok (.iconst 0, 1) := by decide +kernel
theorem dX4_measure_49 : decode cX4_measure 49 = .ok (.istore_n 3, 1) := by decide +kernel
theorem dX4_measure_50 : decode cX4_measure 50 = .ok (.aload_n 0, 1) := by decide +kernel
theorem dX4_measure_51 : decode cX4_measure 51 = .ok (.getfield 45, 3) := by decide +kernel
theorem dX4_measure_54 : decode cX4_measure 54 = .ok (.iload_n 1, 1) := by decide +kernel
theorem dX4_measure_55 : decode cX4_measure 55 = .ok (.iload_n 2, 1) := by decide +kernel
theorem dX4_measure_56 : decode cX4_measure 56 = .ok (.invokestatic 117, 3) := by decide +kernel
theorem dX4_measure_59 : decode cX4_measure 59 = .ok (.iload_n 3, 1) := by decide +kernel
theorem dX4_measure_60 : decode cX4_measure 60 = .ok (.ifCond .eq 7, 3) := by decide +kernel
theorem dX4_measure_63 : decode cX4_measure 63 = .ok (.iconst 0, 1) := by decide +kernel
theorem dX4_measure_64 : decode cX4_measure 64 = .ok (.goto 5, 3) := by decide +kernel
theorem dX4_measure_67 : decode cX4_measure 67 = .ok (.ldc 103, 2) := by decide +kernel
theorem dX4_measure_69 : decode cX4_measure 69 = .ok (.iastore, 1) := by decide +kernel
theorem dX4_measure_70 : decode cX4_measure 70 = .ok (.iinc 2 1, 3) := by decide +kernel
theorem dX4_measure_73 : decode cX4_measure 73 = .ok (.goto (-62), 3) := by decide +kernel
theorem dX4_measure_76 : decode cX4_measure 76 = .ok (.aload_n 0, 1) := by decide +kernel
theorem dX4_measure_77 : decode cX4_measure 77 = .ok (.iload_n 1, 1) := by decide +kernel
theorem dX4_measure_78 : decode cX4_measure 78 = .ok (.invokevirtual 120, 3) := by decide +kernel
theorem dX4_measure_81 : decode cX4_measure 81 = .ok (.aload_n 0, 1) := by decide +kernel
theorem dX4_measure_82 : decode cX4_measure 82 = .ok (.iload_n 1, 1) := by decide +kernel
theorem dX4_measure_83 : decode cX4_measure 83 = .ok (.invokevirtual 124, 3) := by decide +kernel
theorem dX4_measure_86 : decode cX4_measure 86 = .ok (.iinc 1 (-1), 3) := by decide +kernel
theorem dX4_measure_89 : decode cX4_measure 89 = .ok (.goto (-84), 3) := by decide +kernel
theorem dX4_measure_92 : decode cX4_measure 92 = .ok (.return_, 1) := by decide +kernel
set_option maxRecDepth 20000 in
theorem ggX4_measureReading_X4_cellAt : GoodIn wsX4_measureReading wsX4_cellAt := goodIn_g _ [(10, 1)] (by exact rfl) (by decide +kernel)
set_option maxRecDepth 20000 in
theorem gX4_measureReading_X4_cellAt : GoodIn wsX4_measureReading (va_wsS RX4 117 yX4_cellAt wsX4_cellAt) := goodIn_app (goodIn_of _ (by decide +kernel)) ggX4_measureReading_X4_cellAt
set_option maxRecDepth 20000 in
theorem ggX4_measureReading_X4_costToRead : GoodIn wsX4_measureReading wsX4_costToRead := goodIn_g _ [(14, 5), (1, 2), (19, 1), (30, 20)] (by exact rfl) (by decide +kernel)
set_option maxRecDepth 20000 in
theorem gX4_measureReading_X4_costToRead : GoodIn wsX4_measureReading (wsV RX4 127 RX4 yX4_costToRead wsX4_costToRead) := goodIn_app (goodIn_of _ (by decide +kernel)) ggX4_measureReading_X4_costToRead
set_option maxRecDepth 20000 in
theorem ggX4_measureReading_X4_lessen : GoodIn wsX4_measureReading wsX4_lessen := goodIn_g _ [(23, 3), (30, 14)] (by exact rfl) (by decide +kernel)
set_option maxRecDepth 20000 in
theorem gX4_measureReading_X4_lessen : GoodIn wsX4_measureReading (wsV RX4 130 RX4 yX4_lessen wsX4_lessen) := goodIn_app (goodIn_of _ (by decide +kernel)) ggX4_measureReading_X4_lessen
set_option maxRecDepth 20000 in
theorem ggX4_measureReading_X4_costToSkip : GoodIn wsX4_measureReading wsX4_costToSkip := goodIn_g _ [(29, 1), (17, 1), (16, 1), (30, 14)] (by exact rfl) (by decide +kernel)
set_option maxRecDepth 20000 in
theorem gX4_measureReading_X4_costToSkip : GoodIn wsX4_measureReading (wsV RX4 134 RX4 yX4_costToSkip wsX4_costToSkip) := goodIn_app (goodIn_of _ (by decide +kernel)) ggX4_measureReading_X4_costToSkip
theorem dX4_measureReading_0 : decode cX4_measureReading 0 = .ok (.iconst 0, 1) := by decide +kernel
theorem dX4_measureReading_1 : decode cX4_measureReading 1 = .ok (.istore_n 2, 1) := by decide +kernel
theorem dX4_measureReading_2 : decode cX4_measureReading 2 = .ok (.iload_n 2, 1) := by decide +kernel
theorem dX4_measureReading_3 : decode cX4_measureReading 3 = .ok (.aload_n 0, 1) := by decide +kernel
theorem dX4_measureReading_4 : decode cX4_measureReading 4 = .ok (.getfield 22, 3) := by decide +kernel
theorem dX4_measureReading_7 : decode cX4_measureReading 7 = .ok (.getfield 78, 3) := by decide +kernel
theorem dX4_measureReading_10 : decode cX4_measureReading 10 = .ok (.getfield 82, 3) := by decide +kernel
theorem dX4_measureReading_13 : decode cX4_measureReading 13 = .ok (.if_icmp .ge 42, 3) := by decide +kernel
theorem dX4_measureReading_16 : decode cX4_measureReading 16 = .ok (.aload_n 0, 1) := by decide +kernel
theorem dX4_measureReading_17 : decode cX4_measureReading 17 = .ok (.iload_n 1, 1) := by decide +kernel
theorem dX4_measureReading_18 : decode cX4_measureReading 18 = .ok (.aload_n 0, 1) := by decide +kernel
theorem dX4_measureReading_19 : decode cX4_measureReading 19 = .ok (.getfield 33, 3) := by decide +kernel
theorem dX4_measureReading_22 : decode cX4_measureReading 22 = .ok (.iload_n 2, 1) := by decide +kernel
theorem dX4_measureReading_23 : decode cX4_measureReading 23 = .ok (.iaload, 1) := by decide +kernel
theorem dX4_measureReading_24 : decode cX4_measureReading 24 = .ok (.invokestatic 117, 3) := by decide +kernel
theorem dX4_measureReading_27 : decode cX4_measureReading 27 = .ok (.aload_n 0, 1) := by decide +kernel
theorem dX4_measureReading_28 : decode cX4_measureReading 28 = .ok (.iload_n 2, 1) := by decide +kernel
theorem dX4_measureReading_29 : decode cX4_measureReading 29 = .ok (.iload_n 1, 1) := by decide +kernel
theorem dX4_measureReading_30 : decode cX4_measureReading 30 = .ok (.invokevirtual 127, 3) := by decide +kernel
theorem dX4_measureReading_33 : decode cX4_measureReading 33 = .ok (.iload_n 1, 1) := by decide +kernel
theorem dX4_measureReading_34 : decode cX4_measureReading 34 = .ok (.iconst 1, 1) := by decide +kernel
theorem dX4_measureReading_35 : decode cX4_measureReading 35 = .ok (.iadd, 1) := by decide +kernel
theorem dX4_measureReading_36 : decode cX4_measureReading 36 = .ok (.aload_n 0, 1) := by decide +kernel
theorem dX4_measureReading_37 : decode cX4_measureReading 37 = .ok (.getfield 42, 3) := by decide +kernel
theorem dX4_measureReading_40 : decode cX4_measureReading 40 = .ok (.iload_n 2, 1) := by decide +kernel
theorem dX4_measureReading_41 : decode cX4_measureReading 41 = .ok (.iaload, 1) := by decide +kernel
theorem dX4_measureReading_42 : decode cX4_measureReading 42 = .ok (.invokestatic 117, 3) := by decide +kernel
theorem dX4_measureReading_45 : decode cX4_measureReading 45 = .ok (.invokevirtual 130, 3) := by decide +kernel
theorem dX4_measureReading_48 : decode cX4_measureReading 48 = .ok (.pop, 1) := by decide +kernel
theorem dX4_measureReading_49 : decode cX4_measureReading 49 = .ok (.iinc 2 1, 3) := by decide +kernel
theorem dX4_measureReading_52 : decode cX4_measureReading 52 = .ok (.goto (-50), 3) := by decide +kernel
theorem dX4_measureReading_55 : decode cX4_measureReading 55 = .ok (.iconst 0, 1) := by decide +kernel
theorem dX4_measureReading_56 : decode cX4_measureReading 56 = .ok (.istore_n 2, 1) := by decide +kernel
theorem dX4_measureReading_57 : decode cX4_measureReading 57 = .ok (.iload_n 2, 1) := by decide +kernel
theorem dX4_measureReading_58 : decode cX4_measureReading 58 = .ok (.aload_n 0, 1) := by decide +kernel
theorem dX4_measureReading_59 : decode cX4_measureReading 59 = .ok (.getfield 22, 3) := by decide +kernel
theorem dX4_measureReading_62 : decode cX4_measureReading 62 = .ok (.getfield 107, 3) := by decide +kernel
theorem dX4_measureReading_65 : decode cX4_measureReading 65 = .ok (.if_icmp .ge 31, 3) := by decide +kernel
theorem dX4_measureReading_68 : decode cX4_measureReading 68 = .ok (.aload_n 0, 1) := by decide +kernel
theorem dX4_measureReading_69 : decode cX4_measureReading 69 = .ok (.iload_n 1, 1) := by decide +kernel
theorem dX4_measureReading_70 : decode cX4_measureReading 70 = .ok (.iload_n 2, 1) := by decide +kernel
theorem dX4_measureReading_71 : decode cX4_measureReading 71 = .ok (.invokestatic 117, 3) := by decide +kernel
theorem dX4_measureReading_74 : decode cX4_measureReading 74 = .ok (.aload_n 0, 1) := by decide +kernel
theorem dX4_measureReading_75 : decode cX4_measureReading 75 = .ok (.iload_n 1, 1) := by decide +kernel
theorem dX4_measureReading_76 : decode cX4_measureReading 76 = .ok (.invokevirtual 134, 3) := by decide +kernel
theorem dX4_measureReading_79 : decode cX4_measureReading 79 = .ok (.iload_n 1, 1) := by decide +kernel
theorem dX4_measureReading_80 : decode cX4_measureReading 80 = .ok (.iconst 1, 1) := by decide +kernel
theorem dX4_measureReading_81 : decode cX4_measureReading 81 = .ok (.iadd, 1) := by decide +kernel
theorem dX4_measureReading_82 : decode cX4_measureReading 82 = .ok (.iload_n 2, 1) := by decide +kernel
theorem dX4_measureReading_83 : decode cX4_measureReading 83 = .ok (.invokestatic 117, 3) := by decide +kernel
theorem dX4_measureReading_86 : decode cX4_measureReading 86 = .ok (.invokevirtual 130, 3) := by decide +kernel
theorem dX4_measureReading_89 : decode cX4_measureReading 89 = .ok (.pop, 1) := by decide +kernel
theorem dX4_measureReading_90 : decode cX4_measureReading 90 = .ok (.iinc 2 1, 3) := by decide +kernel
theorem dX4_measureReading_93 : decode cX4_measureReading 93 = .ok (.goto (-36), 3) := by decide +kernel
theorem dX4_measureReading_96 : decode cX4_measureReading 96 = .ok (.return_, 1) := by decide +kernel
set_option maxRecDepth 20000 in
theorem ggX4_measureStaying_X4_cellAt : GoodIn wsX4_measureStaying wsX4_cellAt := goodIn_g _ [(10, 1)] (by exact rfl) (by decide +kernel)
set_option maxRecDepth 20000 in
theorem gX4_measureStaying_X4_cellAt : GoodIn wsX4_measureStaying (va_wsS RX4 117 yX4_cellAt wsX4_cellAt) := goodIn_app (goodIn_of _ (by decide +kernel)) ggX4_measureStaying_X4_cellAt
set_option maxRecDepth 20000 in
theorem ggX4_measureStaying_X4_costToStay : GoodIn wsX4_measureStaying wsX4_costToStay := goodIn_g _ [(14, 3), (1, 1), (3, 1), (17, 1), (24, 20)] (by exact rfl) (by decide +kernel)
set_option maxRecDepth 20000 in
theorem gX4_measureStaying_X4_costToStay : GoodIn wsX4_measureStaying (wsV RX4 137 RX4 yX4_costToStay wsX4_costToStay) := goodIn_app (goodIn_of _ (by decide +kernel)) ggX4_measureStaying_X4_costToStay
set_option maxRecDepth 20000 in
theorem ggX4_measureStaying_X4_lessen : GoodIn wsX4_measureStaying wsX4_lessen := goodIn_g _ [(21, 17)] (by exact rfl) (by decide +kernel)
set_option maxRecDepth 20000 in
theorem gX4_measureStaying_X4_lessen : GoodIn wsX4_measureStaying (wsV RX4 130 RX4 yX4_lessen wsX4_lessen) := goodIn_app (goodIn_of _ (by decide +kernel)) ggX4_measureStaying_X4_lessen
theorem dX4_measureStaying_0 : decode cX4_measureStaying 0 = .ok (.iconst 1, 1) := by decide +kernel
theorem dX4_measureStaying_1 : decode cX4_measureStaying 1 = .ok (.istore_n 2, 1) := by decide +kernel
theorem dX4_measureStaying_2 : decode cX4_measureStaying 2 = .ok (.iconst 0, 1) := by decide +kernel
theorem dX4_measureStaying_3 : decode cX4_measureStaying 3 = .ok (.istore_n 3, 1) := by decide +kernel
theorem dX4_measureStaying_4 : decode cX4_measureStaying 4 = .ok (.iload_n 2, 1) := by decide +kernel
theorem dX4_measureStaying_5 : decode cX4_measureStaying 5 = .ok (.ifCond .eq 83, 3) := by decide +kernel
theorem dX4_measureStaying_8 : decode cX4_measureStaying 8 = .ok (.iload_n 3, 1) := by decide +kernel
theorem dX4_measureStaying_9 : decode cX4_measureStaying 9 = .ok (.aload_n 0, 1) := by decide +kernel
theorem dX4_measureStaying_10 : decode cX4_measureStaying 10 = .ok (.getfield 22, 3) := by decide +kernel
theorem dX4_measureStaying_13 : decode cX4_measureStaying 13 = .ok (.getfield 107, 3) := by decide +kernel
theorem dX4_measureStaying_16 : decode cX4_measureStaying 16 = .ok (.if_icmp .ge 72, 3) := by decide +kernel
theorem dX4_measureStaying_19 : decode cX4_measureStaying 19 = .ok (.iconst 0, 1) := by decide +kernel
theorem dX4_measureStaying_20 : decode cX4_measureStaying 20 = .ok (.istore_n 2, 1) := by decide +kernel
theorem dX4_measureStaying_21 : decode cX4_measureStaying 21 = .ok (.iconst 0, 1) := by decide +kernel
theorem dX4_measureStaying_22 : decode cX4_measureStaying 22 = .ok (.istore 4, 2) := by decide +kernel
theorem dX4_measureStaying_24 : decode cX4_measureStaying 24 = .ok (.iload 4, 2) := by decide +kernel
theorem dX4_measureStaying_26 : decode cX4_measureStaying 26 = .ok (.aload_n 0, 1) := by decide +kernel
theorem dX4_measureStaying_27 : decode cX4_measureStaying 27 = .ok (.getfield 22, 3) := by decide +kernel
theorem dX4_measureStaying_30 : decode cX4_measureStaying 30 = .ok (.getfield 78, 3) := by decide +kernel
theorem dX4_measureStaying_33 : decode cX4_measureStaying 33 = .ok (.getfield 82, 3) := by decide +kernel
theorem dX4_measureStaying_36 : decode cX4_measureStaying 36 = .ok (.if_icmp .ge 46, 3) := by decide +kernel
theorem dX4_measureStaying_39 : decode cX4_measureStaying 39 = .ok (.aload_n 0, 1) := by decide +kernel
theorem dX4_measureStaying_40 : decode cX4_measureStaying 40 = .ok (.iload_n 1, 1) := by decide +kernel
theorem dX4_measureStaying_41 : decode cX4_measureStaying 41 = .ok (.aload_n 0, 1) := by decide +kernel
theorem dX4_measureStaying_42 : decode cX4_measureStaying 42 = .ok (.getfield 33, 3) := by decide +kernel
theorem dX4_measureStaying_45 : decode cX4_measureStaying 45 = .ok (.iload 4, 2) := by decide +kernel
theorem dX4_measureStaying_47 : decode cX4_measureStaying 47 = .ok (.iaload, 1) := by decide +kernel
theorem dX4_measureStaying_48 : decode cX4_measureStaying 48 = .ok (.invokestatic 117, 3) := by decide +kernel
theorem dX4_measureStaying_51 : decode cX4_measureStaying 51 = .ok (.aload_n 0, 1) := by decide +kernel
theorem dX4_measureStaying_52 : decode cX4_measureStaying 52 = .ok (.iload 4, 2) := by decide +kernel
theorem dX4_measureStaying_54 : decode cX4_measureStaying 54 = .ok (.invokevirtual 137, 3) := by decide +kernel
theorem dX4_measureStaying_57 : decode cX4_measureStaying 57 = .ok (.iload_n 1, 1) := by decide +kernel
theorem dX4_measureStaying_58 : decode cX4_measureStaying 58 = .ok (.aload_n 0, 1) := by decide +kernel
theorem dX4_measureStaying_59 : decode cX4_measureStaying 59 = .ok (.getfield 42, 3) := by decide +kernel
theorem dX4_measureStaying_62 : decode cX4_measureStaying 62 = .ok (.iload 4, 2) := by decide +kernel
theorem dX4_measureStaying_64 : decode cX4_measureStaying 64 = .ok (.iaload, 1) := by decide +kernel
theorem dX4_measureStaying_65 : decode cX4_measureStaying 65 = .ok (.invokestatic 117, 3) := by decide +kernel
theorem dX4_measureStaying_68 : decode cX4_measureStaying 68 = .ok (.invokevirtual 130, 3) := by decide +kernel
theorem dX4_measureStaying_71 : decode cX4_measureStaying 71 = .ok (.ifCond .eq 5, 3) := by decide +kernel
theorem dX4_measureStaying_74 : decode cX4_measureStaying 74 = .ok (.iconst 1, 1) := by decide +kernel
theorem dX4_measureStaying_75 : decode cX4_measureStaying 75 = .ok (.istore_n 2, 1) := by decide +kernel
theorem dX4_measureStaying_76 : decode cX4_measureStaying 76 = .ok (.iinc 4 1, 3) := by decide +kernel
theorem dX4_measureStaying_79 : decode cX4_measureStaying 79 = .ok (.goto (-55), 3) := by decide +kernel
theorem dX4_measureStaying_82 : decode cX4_measureStaying 82 = .ok (.iinc 3 1, 3) := by decide +kernel
theorem dX4_measureStaying_85 : decode cX4_measureStaying 85 = .ok (.goto (-81), 3) := by decide +kernel
theorem dX4_measureStaying_88 : decode cX4_measureStaying 88 = .ok (.return_, 1) := by decide +kernel
theorem dX4_lessen_0 : decode cX4_lessen 0 = .ok (.iload_n 2, 1) := by decide +kernel
theorem dX4_lessen_1 : decode cX4_lessen 1 = .ok (.iconst (-1), 1) := by decide +kernel
theorem dX4_lessen_2 : decode cX4_lessen 2 = .ok (.if_icmp .eq 31, 3) := by decide +kernel
theorem dX4_lessen_5 : decode cX4_lessen 5 = .ok (.aload_n 0, 1) := by decide +kernel
theorem dX4_lessen_6 : decode cX4_lessen 6 = .ok (.getfield 45, 3) := by decide +kernel
theorem dX4_lessen_9 : decode cX4_lessen 9 = .ok (.iload_n 3, 1) := by decide +kernel
theorem dX4_lessen_10 : decode cX4_lessen 10 = .ok (.iaload, 1) := by decide +kernel
theorem dX4_lessen_11 : decode cX4_lessen 11 = .ok (.ldc 103, 2) := by decide +kernel
theorem dX4_lessen_13 : decode cX4_lessen 13 = .ok (.if_icmp .ge 20, 3) := by decide +kernel
theorem dX4_lessen_16 : decode cX4_lessen 16 = .ok (.aload_n 0, 1) := by decide +kernel
theorem dX4_lessen_17 : decode cX4_lessen 17 = .ok (.getfield 45, 3) := by decide +kernel
theorem dX4_lessen_20 : decode cX4_lessen 20 = .ok (.iload_n 3, 1) := by decide +kernel
theorem dX4_lessen_21 : decode cX4_lessen 21 = .ok (.iaload, 1) := by decide +kernel
theorem dX4_lessen_22 : decode cX4_lessen 22 = .ok (.iload_n 2, 1) := by decide +kernel
theorem dX4_lessen_23 : decode cX4_lessen 23 = .ok (.iadd, 1) := by decide +kernel
theorem dX4_lessen_24 : decode cX4_lessen 24 = .ok (.aload_n 0, 1) := by decide +kernel
theorem dX4_lessen_25 : decode cX4_lessen 25 = .ok (.getfield 45, 3) := by decide +kernel
theorem dX4_lessen_28 : decode cX4_lessen 28 = .ok (.iload_n 1, 1) := by decide +kernel
theorem dX4_lessen_29 : decode cX4_lessen 29 = .ok (.iaload, 1) := by decide +kernel
theorem dX4_lessen_30 : decode cX4_lessen 30 = .ok (.if_icmp .lt 5, 3) := by decide +kernel
theorem dX4_lessen_33 : decode cX4_lessen 33 = .ok (.iconst 0, 1) := by decide +kernel
theorem dX4_lessen_34 : decode cX4_lessen 34 = .ok (.ireturn, 1) := by decide +kernel
theorem dX4_lessen_35 : decode cX4_lessen 35 = .ok (.aload_n 0, 1) := by decide +kernel
theorem dX4_lessen_36 : decode cX4_lessen 36 = .ok (.getfield 45, 3) := by decide +kernel
theorem dX4_lessen_39 : decode cX4_lessen 39 = .ok (.iload_n 1, 1) := by decide +kernel
theorem dX4_lessen_40 : decode cX4_lessen 40 = .ok (.aload_n 0, 1) := by decide +kernel
theorem dX4_lessen_41 : decode cX4_lessen 41 = .ok (.getfield 45, 3) := by decide +kernel
theorem dX4_lessen_44 : decode cX4_lessen 44 = .ok (.iload_n 3, 1) := by decide +kernel
theorem dX4_lessen_45 : decode cX4_lessen 45 = .ok (.iaload, 1) := by decide +kernel
theorem dX4_lessen_46 : decode cX4_lessen 46 = .ok (.iload_n 2, 1) := by decide +kernel
theorem dX4_lessen_47 : decode cX4_lessen 47 = .ok (.iadd, 1) := by decide +kernel
theorem dX4_lessen_48 : decode cX4_lessen 48 = .ok (.iastore, 1) := by decide +kernel
theorem dX4_lessen_49 : decode cX4_lessen 49 = .ok (.iconst 1, 1) := by decide +kernel
theorem dX4_lessen_50 : decode cX4_lessen 50 = .ok (.ireturn, 1) := by decide +kernel
set_option maxRecDepth 20000 in
theorem ggX4_find_X4_clearSets : GoodIn wsX4_find wsX4_clearSets := goodIn_g _ [(12, 1), (5, 1), (79, 14)] (by exact rfl) (by decide +kernel)
set_option maxRecDepth 20000 in
theorem gX4_find_X4_clearSets : GoodIn wsX4_find (wsV RX4 140 RX4 yX4_clearSets wsX4_clearSets) := goodIn_app (goodIn_of _ (by decide +kernel)) ggX4_find_X4_clearSets
set_option maxRecDepth 20000 in
theorem ggX4_find_X4_enter : GoodIn wsX4_find wsX4_enter := goodIn_g _ [(16, 2), (5, 2), (18, 5), (11, 1), (23, 28), (3, 2), (1, 1), (51, 21), (79, 20)] (by exact rfl) (by decide +kernel)
set_option maxRecDepth 20000 in
theorem gX4_find_X4_enter : GoodIn wsX4_find (wsV RX4 143 RX4 yX4_enter wsX4_enter) := goodIn_app (goodIn_of _ (by decide +kernel)) ggX4_find_X4_enter
set_option maxRecDepth 20000 in
theorem ggX4_find_X4_lowestIn : GoodIn wsX4_find wsX4_lowestIn := goodIn_g _ [(74, 1), (29, 3)] (by exact rfl) (by decide +kernel)
set_option maxRecDepth 20000 in
theorem gX4_find_X4_lowestIn : GoodIn wsX4_find (va_wsS RX4 147 yX4_lowestIn wsX4_lowestIn) := goodIn_app (goodIn_of _ (by decide +kernel)) ggX4_find_X4_lowestIn
set_option maxRecDepth 20000 in
theorem ggX4_find_X4_step : GoodIn wsX4_find wsX4_step := goodIn_g _ [(78, 1), (17, 1), (5, 1), (18, 1), (25, 4), (8, 5), (32, 5), (29, 3), (37, 14), (3, 2), (1, 1), (55, 9), (79, 20)] (by exact rfl) (by decide +kernel)
set_option maxRecDepth 20000 in
theorem gX4_find_X4_step : GoodIn wsX4_find (wsV RX4 150 RX4 yX4_step wsX4_step) := goodIn_app (goodIn_of _ (by decide +kernel)) ggX4_find_X4_step
theorem dX4_find_0 : decode cX4_find 0 = .ok (.aload_n 0, 1) := by decide +kernel
theorem dX4_find_1 : decode cX4_find 1 = .ok (.iload_n 2, 1) := by decide +kernel
theorem dX4_find_2 : decode cX4_find 2 = .ok (.putfield 29, 3) := by decide +kernel
theorem dX4_find_5 : decode cX4_find 5 = .ok (.aload_n 0, 1) := by decide +kernel
theorem dX4_find_6 : decode cX4_find 6 = .ok (.iconst 0, 1) := by decide +kernel
theorem dX4_find_7 : decode cX4_find 7 = .ok (.putfield 57, 3) := by decide +kernel
theorem dX4_find_10 : decode cX4_find 10 = .ok (.aload_n 0, 1) := by decide +kernel
theorem dX4_find_11 : decode cX4_find 11 = .ok (.getfield 45, 3) := by decide +kernel
theorem dX4_find_14 : decode cX4_find 14 = .ok (.iconst 0, 1) := by decide +kernel
theorem dX4_find_15 : decode cX4_find 15 = .ok (.iaload, 1) := by decide +kernel
theorem dX4_find_16 : decode cX4_find 16 = .ok (.ldc 103, 2) := by decide +kernel
theorem dX4_find_18 : decode cX4_find 18 = .ok (.if_icmp .lt 5, 3) := by decide +kernel
theorem dX4_find_21 : decode cX4_find 21 = .ok (.iconst 0, 1) := by decide +kernel
theorem dX4_find_22 : decode cX4_find 22 = .ok (.ireturn, 1) := by decide +kernel
theorem dX4_find_23 : decode cX4_find 23 = .ok (.aload_n 0, 1) := by decide +kernel
theorem dX4_find_24 : decode cX4_find 24 = .ok (.iconst 0, 1) := by decide +kernel
theorem dX4_find_25 : decode cX4_find 25 = .ok (.invokevirtual 140, 3) := by decide +kernel
theorem dX4_find_28 : decode cX4_find 28 = .ok (.aload_n 0, 1) := by decide +kernel
theorem dX4_find_29 : decode cX4_find 29 = .ok (.getfield 48, 3) := by decide +kernel
theorem dX4_find_32 : decode cX4_find 32 = .ok (.iconst 0, 1) := by decide +kernel
theorem dX4_find_33 : decode cX4_find 33 = .ok (.iconst 1, 1) := by decide +kernel
theorem dX4_find_34 : decode cX4_find 34 = .ok (.iastore, 1) := by decide +kernel
theorem dX4_find_35 : decode cX4_find 35 = .ok (.aload_n 0, 1) := by decide +kernel
theorem dX4_find_36 : decode cX4_find 36 = .ok (.iconst 0, 1) := by decide +kernel
theorem dX4_find_37 : decode cX4_find 37 = .ok (.invokevirtual 143, 3) := by decide +kernel
theorem dX4_find_40 : decode cX4_find 40 = .ok (.ifCond .eq 7, 3) := by decide +kernel
theorem dX4_find_43 : decode cX4_find 43 = .ok (.iconst 1, 1) := by decide +kernel
theorem dX4_find_44 : decode cX4_find 44 = .ok (.goto 4, 3) := by decide +kernel
theorem dX4_find_47 : decode cX4_find 47 = .ok (.iconst 0, 1) := by decide +kernel
theorem dX4_find_48 : decode cX4_find 48 = .ok (.istore_n 3, 1) := by decide +kernel
theorem dX4_find_49 : decode cX4_find 49 = .ok (.iconst 0, 1) := by decide +kernel
theorem dX4_find_50 : decode cX4_find 50 = .ok (.istore 4, 2) := by decide +kernel
theorem dX4_find_52 : decode cX4_find 52 = .ok (.iconst 0, 1) := by decide +kernel
theorem dX4_find_53 : decode cX4_find 53 = .ok (.istore 5, 2) := by decide +kernel
theorem dX4_find_55 : decode cX4_find 55 = .ok (.iload_n 3, 1) := by decide +kernel
theorem dX4_find_56 : decode cX4_find 56 = .ok (.iload_n 1, 1) := by decide +kernel
theorem dX4_find_57 : decode cX4_find 57 = .ok (.if_icmp .ge 110, 3) := by decide +kernel
theorem dX4_find_60 : decode cX4_find 60 = .ok (.iload 4, 2) := by decide +kernel
theorem dX4_find_62 : decode cX4_find 62 = .ok (.ifCond .lt 105, 3) := by decide +kernel
theorem dX4_find_65 : decode cX4_find 65 = .ok (.iload 5, 2) := by decide +kernel
theorem dX4_find_67 : decode cX4_find 67 = .ok (.sipush 11560, 3) := by decide +kernel
theorem dX4_find_70 : decode cX4_find 70 = .ok (.if_icmp .ge 97, 3) := by decide +kernel
theorem dX4_find_73 : decode cX4_find 73 = .ok (.aload_n 0, 1) := by decide +kernel
theorem dX4_find_74 : decode cX4_find 74 = .ok (.getfield 51, 3) := by decide +kernel
theorem dX4_find_77 : decode cX4_find 77 = .ok (.iload 4, 2) := by decide +kernel
theorem dX4_find_79 : decode cX4_find 79 = .ok (.iaload, 1) := by decide +kernel
theorem dX4_find_80 : decode cX4_find 80 = .ok (.invokestatic 147, 3) := by decide +kernel
theorem dX4_find_83 : decode cX4_find 83 = .ok (.istore 6, 2) := by decide +kernel
theorem dX4_find_85 : decode cX4_find 85 = .ok (.iload 6, 2) := by decide +kernel
theorem dX4_find_87 : decode cX4_find 87 = .ok (.iconst (-1), 1) := by decide +kernel
theorem dX4_find_88 : decode cX4_find 88 = .ok (.if_icmp .eq 13, 3) := by decide +kernel
theorem dX4_find_91 : decode cX4_find 91 = .ok (.iload 4, 2) := by decide +kernel
theorem dX4_find_93 : decode cX4_find 93 = .ok (.iconst 1, 1) := by decide +kernel
theorem dX4_find_94 : decode cX4_find 94 = .ok (.iadd, 1) := by decide +kernel
theorem dX4_find_95 : decode cX4_find 95 = .ok (.sipush 288, 3) := by decide +kernel
theorem dX4_find_98 : decode cX4_find 98 = .ok (.if_icmp .lt 9, 3) := by decide +kernel
theorem dX4_find_101 : decode cX4_find 101 = .ok (.iinc 4 (-1), 3) := by decide +kernel
theorem dX4_find_104 : decode cX4_find 104 = .ok (.goto 57, 3) := by decide +kernel
theorem dX4_find_107 : decode cX4_find 107 = .ok (.aload_n 0, 1) := by decide +kernel
theorem dX4_find_108 : decode cX4_find 108 = .ok (.getfield 51, 3) := by decide +kernel
theorem dX4_find_111 : decode cX4_find 111 = .ok (.iload 4, 2) := by decide +kernel
theorem dX4_find_113 : decode cX4_find 113 = .ok (.dup2, 1) := by decide +kernel
theorem dX4_find_114 : decode cX4_find 114 = .ok (.iaload, 1) := by decide +kernel
theorem dX4_find_115 : decode cX4_find 115 = .ok (.iconst 1, 1) := by decide +kernel
theorem dX4_find_116 : decode cX4_find 116 = .ok (.iload 6, 2) := by decide +kernel
theorem dX4_find_118 : decode cX4_find 118 = .ok (.ishl, 1) := by decide +kernel
theorem dX4_find_119 : decode cX4_find 119 = .ok (.iconst (-1), 1) := by decide +kernel
theorem dX4_find_120 : decode cX4_find 120 = .ok (.ixor, 1) := by decide +kernel
theorem dX4_find_121 : decode cX4_find 121 = .ok (.iand, 1) := by decide +kernel
theorem dX4_find_122 : decode cX4_find 122 = .ok (.iastore, 1) := by decide +kernel
theorem dX4_find_123 : decode cX4_find 123 = .ok (.aload_n 0, 1) := by decide +kernel
theorem dX4_find_124 : decode cX4_find 124 = .ok (.getfield 54, 3) := by decide +kernel
theorem dX4_find_127 : decode cX4_find 127 = .ok (.iload 4, 2) := by decide +kernel
theorem dX4_find_129 : decode cX4_find 129 = .ok (.iload 6, 2) := by decide +kernel
theorem dX4_find_131 : decode cX4_find 131 = .ok (.iastore, 1) := by decide +kernel
theorem dX4_find_132 : decode cX4_find 132 = .ok (.aload_n 0, 1) := by decide +kernel
theorem dX4_find_133 : decode cX4_find 133 = .ok (.iload 4, 2) := by decide +kernel
theorem dX4_find_135 : decode cX4_find 135 = .ok (.iload 6, 2) := by decide +kernel
theorem dX4_find_137 : decode cX4_find 137 = .ok (.invokevirtual 150, 3) := by decide +kernel
theorem dX4_find_140 : decode cX4_find 140 = .ok (.iinc 4 1, 3) := by decide +kernel
theorem dX4_find_143 : decode cX4_find 143 = .ok (.aload_n 0, 1) := by decide +kernel
theorem dX4_find_144 : decode cX4_find 144 = .ok (.iload 4, 2) := by decide +kernel
theorem dX4_find_146 : decode cX4_find 146 = .ok (.invokevirtual 143, 3) := by decide +kernel
theorem dX4_find_149 : decode cX4_find 149 = .ok (.ifCond .eq 12, 3) := by decide +kernel
theorem dX4_find_152 : decode cX4_find 152 = .ok (.iinc 3 1, 3) := by decide +kernel
theorem dX4_find_155 : decode cX4_find 155 = .ok (.aload_n 0, 1) := by decide +kernel
theorem dX4_find_156 : decode cX4_find 156 = .ok (.iload 4, 2) := by decide +kernel
theorem dX4_find_158 : decode cX4_find 158 = .ok (.putfield 57, 3) := by decide +kernel
theorem dX4_find_161 : decode cX4_find 161 = .ok (.iinc 5 1, 3) := by decide +kernel
theorem dX4_find_164 : decode cX4_find 164 = .ok (.goto (-109), 3) := by decide +kernel
theorem dX4_find_167 : decode cX4_find 167 = .ok (.iload_n 3, 1) := by decide +kernel
theorem dX4_find_168 : decode cX4_find 168 = .ok (.ireturn, 1) := by decide +kernel
set_option maxRecDepth 20000 in
theorem ggX4_lowestIn_X7_holds : GoodIn wsX4_lowestIn wsX7_holds := goodIn_g _ [(3, 1)] (by exact rfl) (by decide +kernel)
set_option maxRecDepth 20000 in
theorem gX4_lowestIn_X7_holds_n113 : GoodIn wsX4_lowestIn (wsX7_holds) := ggX4_lowestIn_X7_holds
theorem dX4_lowestIn_0 : decode cX4_lowestIn 0 = .ok (.iconst 0, 1) := by decide +kernel
theorem dX4_lowestIn_1 : decode cX4_lowestIn 1 = .ok (.istore_n 1, 1) := by decide +kernel
theorem dX4_lowestIn_2 : decode cX4_lowestIn 2 = .ok (.iload_n 1, 1) := by decide +kernel
theorem dX4_lowestIn_3 : decode cX4_lowestIn 3 = .ok (.bipush 8, 2) := by decide +kernel
theorem dX4_lowestIn_5 : decode cX4_lowestIn 5 = .ok (.if_icmp .ge 19, 3) := by decide +kernel
theorem dX4_lowestIn_8 : decode cX4_lowestIn 8 = .ok (.iload_n 0, 1) := by decide +kernel
theorem dX4_lowestIn_9 : decode cX4_lowestIn 9 = .ok (.iload_n 1, 1) := by decide +kernel
theorem dX4_lowestIn_10 : decode cX4_lowestIn 10 = .ok (.invokestatic 113, 3) := by decide +kernel
theorem dX4_lowestIn_13 : decode cX4_lowestIn 13 = .ok (.ifCond .eq 5, 3) := by decide +kernel
theorem dX4_lowestIn_16 : decode cX4_lowestIn 16 = .ok (.iload_n 1, 1) := by decide +kernel
theorem dX4_lowestIn_17 : decode cX4_lowestIn 17 = .ok (.ireturn, 1) := by decide +kernel
theorem dX4_lowestIn_18 : decode cX4_lowestIn 18 = .ok (.iinc 1 1, 3) := by decide +kernel
theorem dX4_lowestIn_21 : decode cX4_lowestIn 21 = .ok (.goto (-19), 3) := by decide +kernel
theorem dX4_lowestIn_24 : decode cX4_lowestIn 24 = .ok (.iconst (-1), 1) := by decide +kernel
theorem dX4_lowestIn_25 : decode cX4_lowestIn 25 = .ok (.ireturn, 1) := by decide +kernel
theorem dX4_clearSets_0 : decode cX4_clearSets 0 = .ok (.iconst 0, 1) := by decide +kernel
theorem dX4_clearSets_1 : decode cX4_clearSets 1 = .ok (.istore_n 2, 1) := by decide +kernel
theorem dX4_clearSets_2 : decode cX4_clearSets 2 = .ok (.iload_n 2, 1) := by decide +kernel
theorem dX4_clearSets_3 : decode cX4_clearSets 3 = .ok (.bipush 9, 2) := by decide +kernel
theorem dX4_clearSets_5 : decode cX4_clearSets 5 = .ok (.if_icmp .ge 21, 3) := by decide +kernel
theorem dX4_clearSets_8 : decode cX4_clearSets 8 = .ok (.aload_n 0, 1) := by decide +kernel
theorem dX4_clearSets_9 : decode cX4_clearSets 9 = .ok (.getfield 48, 3) := by decide +kernel
theorem dX4_clearSets_12 : decode cX4_clearSets 12 = .ok (.iload_n 1, 1) := by decide +kernel
theorem dX4_clearSets_13 : decode cX4_clearSets 13 = .ok (.bipush 9, 2) := by decide +kernel
theorem dX4_clearSets_15 : decode cX4_clearSets 15 = .ok (.imul, 1) := by decide +kernel
theorem dX4_clearSets_16 : decode cX4_clearSets 16 = .ok (.iload_n 2, 1) := by decide +kernel
theorem dX4_clearSets_17 : decode cX4_clearSets 17 = .ok (.iadd, 1) := by decide +kernel
theorem dX4_clearSets_18 : decode cX4_clearSets 18 = .ok (.iconst 0, 1) := by decide +kernel
theorem dX4_clearSets_19 : decode cX4_clearSets 19 = .ok (.iastore, 1) := by decide +kernel
theorem dX4_clearSets_20 : decode cX4_clearSets 20 = .ok (.iinc 2 1, 3) := by decide +kernel
theorem dX4_clearSets_23 : decode cX4_clearSets 23 = .ok (.goto (-21), 3) := by decide +kernel
theorem dX4_clearSets_26 : decode cX4_clearSets 26 = .ok (.return_, 1) := by decide +kernel
set_option maxRecDepth 20000 in
theorem ggX4_enter_X4_spreadStaying : GoodIn wsX4_enter wsX4_spreadStaying := goodIn_g _ [(10, 1), (4, 1), (11, 4), (2, 1), (15, 7), (9, 1), (22, 19), (62, 20)] (by exact rfl) (by decide +kernel)
set_option maxRecDepth 20000 in
theorem gX4_enter_X4_spreadStaying : GoodIn wsX4_enter (wsV RX4 154 RX4 yX4_spreadStaying wsX4_spreadStaying) := goodIn_app (goodIn_of _ (by decide +kernel)) ggX4_enter_X4_spreadStaying
set_option maxRecDepth 20000 in
theorem ggX4_enter_X4_spreadReading : GoodIn wsX4_enter wsX4_spreadReading := goodIn_g _ [(44, 1), (4, 1), (12, 3), (2, 1), (15, 1), (11, 1), (45, 3), (9, 1), (48, 1), (23, 1), (16, 3), (24, 3), (49, 4), (32, 1), (1, 1), (31, 1), (53, 1), (33, 8), (54, 4), (62, 20)] (by exact rfl) (by decide +kernel)
set_option maxRecDepth 20000 in
theorem gX4_enter_X4_spreadReading : GoodIn wsX4_enter (wsV RX4 157 RX4 yX4_spreadReading wsX4_spreadReading) := goodIn_app (goodIn_of _ (by decide +kernel)) ggX4_enter_X4_spreadReading
set_option maxRecDepth 20000 in
theorem ggX4_enter_X4_lettersFrom : GoodIn wsX4_enter wsX4_lettersFrom := goodIn_g _ [(61, 1), (1, 2), (4, 1), (12, 3), (16, 6), (9, 1), (22, 2), (15, 1), (24, 17), (45, 9), (62, 20)] (by exact rfl) (by decide +kernel)
set_option maxRecDepth 20000 in
theorem gX4_enter_X4_lettersFrom : GoodIn wsX4_enter (wsV RX4 160 RX4 yX4_lettersFrom wsX4_lettersFrom) := goodIn_app (goodIn_of _ (by decide +kernel)) ggX4_enter_X4_lettersFrom
theorem dX4_enter_0 : decode cX4_enter 0 = .ok (.iconst 0, 1) := by decide +kernel
theorem dX4_enter_1 : decode cX4_enter 1 = .ok (.istore_n 2, 1) := by decide +kernel
theorem dX4_enter_2 : decode cX4_enter 2 = .ok (.iload_n 2, 1) := by decide +kernel
theorem dX4_enter_3 : decode cX4_enter 3 = .ok (.aload_n 0, 1) := by decide +kernel
theorem dX4_enter_4 : decode cX4_enter 4 = .ok (.getfield 15, 3) := by decide +kernel
theorem dX4_enter_7 : decode cX4_enter 7 = .ok (.if_icmp .gt 45, 3) := by decide +kernel
theorem dX4_enter_10 : decode cX4_enter 10 = .ok (.aload_n 0, 1) := by decide +kernel
theorem dX4_enter_11 : decode cX4_enter 11 = .ok (.getfield 48, 3) := by decide +kernel
theorem dX4_enter_14 : decode cX4_enter 14 = .ok (.iload_n 1, 1) := by decide +kernel
theorem dX4_enter_15 : decode cX4_enter 15 = .ok (.bipush 9, 2) := by decide +kernel
theorem dX4_enter_17 : decode cX4_enter 17 = .ok (.imul, 1) := by decide +kernel
theorem dX4_enter_18 : decode cX4_enter 18 = .ok (.iload_n 2, 1) := by decide +kernel
theorem dX4_enter_19 : decode cX4_enter 19 = .ok (.iadd, 1) := by decide +kernel
theorem dX4_enter_20 : decode cX4_enter 20 = .ok (.iaload, 1) := by decide +kernel
theorem dX4_enter_21 : decode cX4_enter 21 = .ok (.ifCond .eq 25, 3) := by decide +kernel
theorem dX4_enter_24 : decode cX4_enter 24 = .ok (.aload_n 0, 1) := by decide +kernel
theorem dX4_enter_25 : decode cX4_enter 25 = .ok (.iload_n 1, 1) := by decide +kernel
theorem dX4_enter_26 : decode cX4_enter 26 = .ok (.bipush 9, 2) := by decide +kernel
theorem dX4_enter_28 : decode cX4_enter 28 = .ok (.imul, 1) := by decide +kernel
theorem dX4_enter_29 : decode cX4_enter 29 = .ok (.iload_n 2, 1) := by decide +kernel
theorem dX4_enter_30 : decode cX4_enter 30 = .ok (.iadd, 1) := by decide +kernel
theorem dX4_enter_31 : decode cX4_enter 31 = .ok (.iload_n 2, 1) := by decide +kernel
theorem dX4_enter_32 : decode cX4_enter 32 = .ok (.invokevirtual 154, 3) := by decide +kernel
theorem dX4_enter_35 : decode cX4_enter 35 = .ok (.aload_n 0, 1) := by decide +kernel
theorem dX4_enter_36 : decode cX4_enter 36 = .ok (.iload_n 1, 1) := by decide +kernel
theorem dX4_enter_37 : decode cX4_enter 37 = .ok (.bipush 9, 2) := by decide +kernel
theorem dX4_enter_39 : decode cX4_enter 39 = .ok (.imul, 1) := by decide +kernel
theorem dX4_enter_40 : decode cX4_enter 40 = .ok (.iload_n 2, 1) := by decide +kernel
theorem dX4_enter_41 : decode cX4_enter 41 = .ok (.iadd, 1) := by decide +kernel
theorem dX4_enter_42 : decode cX4_enter 42 = .ok (.iload_n 2, 1) := by decide +kernel
theorem dX4_enter_43 : decode cX4_enter 43 = .ok (.invokevirtual 157, 3) := by decide +kernel
theorem dX4_enter_46 : decode cX4_enter 46 = .ok (.iinc 2 1, 3) := by decide +kernel
theorem dX4_enter_49 : decode cX4_enter 49 = .ok (.goto (-47), 3) := by decide +kernel
theorem dX4_enter_52 : decode cX4_enter 52 = .ok (.aload_n 0, 1) := by decide +kernel
theorem dX4_enter_53 : decode cX4_enter 53 = .ok (.getfield 51, 3) := by decide +kernel
theorem dX4_enter_56 : decode cX4_enter 56 = .ok (.iload_n 1, 1) := by decide +kernel
theorem dX4_enter_57 : decode cX4_enter 57 = .ok (.aload_n 0, 1) := by decide +kernel
theorem dX4_enter_58 : decode cX4_enter 58 = .ok (.iload_n 1, 1) := by decide +kernel
theorem dX4_enter_59 : decode cX4_enter 59 = .ok (.invokevirtual 160, 3) := by decide +kernel
theorem dX4_enter_62 : decode cX4_enter 62 = .ok (.iastore, 1) := by decide +kernel
theorem dX4_enter_63 : decode cX4_enter 63 = .ok (.aload_n 0, 1) := by decide +kernel
theorem dX4_enter_64 : decode cX4_enter 64 = .ok (.getfield 48, 3) := by decide +kernel
theorem dX4_enter_67 : decode cX4_enter 67 = .ok (.iload_n 1, 1) := by decide +kernel
theorem dX4_enter_68 : decode cX4_enter 68 = .ok (.bipush 9, 2) := by decide +kernel
theorem dX4_enter_70 : decode cX4_enter 70 = .ok (.imul, 1) := by decide +kernel
theorem dX4_enter_71 : decode cX4_enter 71 = .ok (.aload_n 0, 1) := by decide +kernel
theorem dX4_enter_72 : decode cX4_enter 72 = .ok (.getfield 15, 3) := by decide +kernel
theorem dX4_enter_75 : decode cX4_enter 75 = .ok (.iadd, 1) := by decide +kernel
theorem dX4_enter_76 : decode cX4_enter 76 = .ok (.iaload, 1) := by decide +kernel
theorem dX4_enter_77 : decode cX4_enter 77 = .ok (.aload_n 0, 1) := by decide +kernel
theorem dX4_enter_78 : decode cX4_enter 78 = .ok (.getfield 22, 3) := by decide +kernel
theorem dX4_enter_81 : decode cX4_enter 81 = .ok (.getfield 110, 3) := by decide +kernel
theorem dX4_enter_84 : decode cX4_enter 84 = .ok (.iand, 1) := by decide +kernel
theorem dX4_enter_85 : decode cX4_enter 85 = .ok (.ifCond .eq 7, 3) := by decide +kernel
theorem dX4_enter_88 : decode cX4_enter 88 = .ok (.iconst 1, 1) := by decide +kernel
theorem dX4_enter_89 : decode cX4_enter 89 = .ok (.goto 4, 3) := by decide +kernel
theorem dX4_enter_92 : decode cX4_enter 92 = .ok (.iconst 0, 1) := by decide +kernel
theorem dX4_enter_93 : decode cX4_enter 93 = .ok (.ireturn, 1) := by decide +kernel
set_option maxRecDepth 20000 in
theorem ggX4_spreadStaying_X7_holds : GoodIn wsX4_spreadStaying wsX7_holds := goodIn_g _ [(10, 1)] (by exact rfl) (by decide +kernel)
set_option maxRecDepth 20000 in
theorem gX4_spreadStaying_X7_holds_n113 : GoodIn wsX4_spreadStaying (wsX7_holds) := ggX4_spreadStaying_X7_holds
set_option maxRecDepth 20000 in
theorem ggX4_spreadStaying_X4_isWayStaying : GoodIn wsX4_spreadStaying wsX4_isWayStaying := goodIn_g _ [(15, 1), (6, 1), (16, 1), (7, 4), (17, 2), (14, 1), (19, 7), (1, 1), (3, 1), (26, 28)] (by exact rfl) (by decide +kernel)
set_option maxRecDepth 20000 in
theorem gX4_spreadStaying_X4_isWayStaying : GoodIn wsX4_spreadStaying (wsV RX4 163 RX4 yX4_isWayStaying wsX4_isWayStaying) := goodIn_app (goodIn_of _ (by decide +kernel)) ggX4_spreadStaying_X4_isWayStaying
theorem dX4_spreadStaying_0 : decode cX4_spreadStaying 0 = .ok (.iconst 1, 1) := by decide +kernel
theorem dX4_spreadStaying_1 : decode cX4_spreadStaying 1 = .ok (.istore_n 3, 1) := by decide +kernel
theorem dX4_spreadStaying_2 : decode cX4_spreadStaying 2 = .ok (.iconst 0, 1) := by decide +kernel
theorem dX4_spreadStaying_3 : decode cX4_spreadStaying 3 = .ok (.istore 4, 2) := by decide +kernel
theorem dX4_spreadStaying_5 : decode cX4_spreadStaying 5 = .ok (.iload_n 3, 1) := by decide +kernel
theorem dX4_spreadStaying_6 : decode cX4_spreadStaying 6 = .ok (.ifCond .eq 109, 3) := by decide +kernel
theorem dX4_spreadStaying_9 : decode cX4_spreadStaying 9 = .ok (.iload 4, 2) := by decide +kernel
theorem dX4_spreadStaying_11 : decode cX4_spreadStaying 11 = .ok (.aload_n 0, 1) := by decide +kernel
theorem dX4_spreadStaying_12 : decode cX4_spreadStaying 12 = .ok (.getfield 22, 3) := by decide +kernel
theorem dX4_spreadStaying_15 : decode cX4_spreadStaying 15 = .ok (.getfield 107, 3) := by decide +kernel
theorem dX4_spreadStaying_18 : decode cX4_spreadStaying 18 = .ok (.if_icmp .ge 97, 3) := by decide +kernel
theorem dX4_spreadStaying_21 : decode cX4_spreadStaying 21 = .ok (.iconst 0, 1) := by decide +kernel
theorem dX4_spreadStaying_22 : decode cX4_spreadStaying 22 = .ok (.istore_n 3, 1) := by decide +kernel
theorem dX4_spreadStaying_23 : decode cX4_spreadStaying 23 = .ok (.iconst 0, 1) := by decide +kernel
theorem dX4_spreadStaying_24 : decode cX4_spreadStaying 24 = .ok (.istore 5, 2) := by decide +kernel
theorem dX4_spreadStaying_26 : decode cX4_spreadStaying 26 = .ok (.iload 5, 2) := by decide +kernel
theorem dX4_spreadStaying_28 : decode cX4_spreadStaying 28 = .ok (.aload_n 0, 1) := by decide +kernel
theorem dX4_spreadStaying_29 : decode cX4_spreadStaying 29 = .ok (.getfield 22, 3) := by decide +kernel
theorem dX4_spreadStaying_32 : decode cX4_spreadStaying 32 = .ok (.getfield 78, 3) := by decide +kernel
theorem dX4_spreadStaying_35 : decode cX4_spreadStaying 35 = .ok (.getfield 82, 3) := by decide +kernel
theorem dX4_spreadStaying_38 : decode cX4_spreadStaying 38 = .ok (.if_icmp .ge 71, 3) := by decide +kernel
theorem dX4_spreadStaying_41 : decode cX4_spreadStaying 41 = .ok (.aload_n 0, 1) := by decide +kernel
theorem dX4_spreadStaying_42 : decode cX4_spreadStaying 42 = .ok (.getfield 39, 3) := by decide +kernel
theorem dX4_spreadStaying_45 : decode cX4_spreadStaying 45 = .ok (.iload 5, 2) := by decide +kernel
theorem dX4_spreadStaying_47 : decode cX4_spreadStaying 47 = .ok (.iaload, 1) := by decide +kernel
theorem dX4_spreadStaying_48 : decode cX4_spreadStaying 48 = .ok (.bipush 8, 2) := by decide +kernel
theorem dX4_spreadStaying_50 : decode cX4_spreadStaying 50 = .ok (.if_icmp .ne 53, 3) := by decide +kernel
theorem dX4_spreadStaying_53 : decode cX4_spreadStaying 53 = .ok (.aload_n 0, 1) := by decide +kernel
theorem dX4_spreadStaying_54 : decode cX4_spreadStaying 54 = .ok (.getfield 48, 3) := by decide +kernel
theorem dX4_spreadStaying_57 : decode cX4_spreadStaying 57 = .ok (.iload_n 1, 1) := by decide +kernel
theorem dX4_spreadStaying_58 : decode cX4_spreadStaying 58 = .ok (.iaload, 1) := by decide +kernel
theorem dX4_spreadStaying_59 : decode cX4_spreadStaying 59 = .ok (.aload_n 0, 1) := by decide +kernel
theorem dX4_spreadStaying_60 : decode cX4_spreadStaying 60 = .ok (.getfield 42, 3) := by decide +kernel
theorem dX4_spreadStaying_63 : decode cX4_spreadStaying 63 = .ok (.iload 5, 2) := by decide +kernel
theorem dX4_spreadStaying_65 : decode cX4_spreadStaying 65 = .ok (.iaload, 1) := by decide +kernel
theorem dX4_spreadStaying_66 : decode cX4_spreadStaying 66 = .ok (.invokestatic 113, 3) := by decide +kernel
theorem dX4_spreadStaying_69 : decode cX4_spreadStaying 69 = .ok (.ifCond .ne 34, 3) := by decide +kernel
theorem dX4_spreadStaying_72 : decode cX4_spreadStaying 72 = .ok (.aload_n 0, 1) := by decide +kernel
theorem dX4_spreadStaying_73 : decode cX4_spreadStaying 73 = .ok (.iload 5, 2) := by decide +kernel
theorem dX4_spreadStaying_75 : decode cX4_spreadStaying 75 = .ok (.iload_n 1, 1) := by decide +kernel
theorem dX4_spreadStaying_76 : decode cX4_spreadStaying 76 = .ok (.iload_n 2, 1) := by decide +kernel
theorem dX4_spreadStaying_77 : decode cX4_spreadStaying 77 = .ok (.invokevirtual 163, 3) := by decide +kernel
theorem dX4_spreadStaying_80 : decode cX4_spreadStaying 80 = .ok (.ifCond .eq 23, 3) := by decide +kernel
theorem dX4_spreadStaying_83 : decode cX4_spreadStaying 83 = .ok (.aload_n 0, 1) := by decide +kernel
theorem dX4_spreadStaying_84 : decode cX4_spreadStaying 84 = .ok (.getfield 48, 3) := by decide +kernel
theorem dX4_spreadStaying_87 : decode cX4_spreadStaying 87 = .ok (.iload_n 1, 1) := by decide +kernel
theorem dX4_spreadStaying_88 : decode cX4_spreadStaying 88 = .ok (.dup2, 1) := by decide +kernel
theorem dX4_spreadStaying_89 : decode cX4_spreadStaying 89 = .ok (.iaload, 1) := by decide +kernel
theorem dX4_spreadStaying_90 : decode cX4_spreadStaying 90 = .ok (.iconst 1, 1) := by decide +kernel
theorem dX4_spreadStaying_91 : decode cX4_spreadStaying 91 = .ok (.aload_n 0, 1) := by decide +kernel
theorem dX4_spreadStaying_92 : decode cX4_spreadStaying 92 = .ok (.getfield 42, 3) := by decide +kernel
theorem dX4_spreadStaying_95 : decode cX4_spreadStaying 95 = .ok (.iload 5, 2) := by decide +kernel
theorem dX4_spreadStaying_97 : decode cX4_spreadStaying 97 = .ok (.iaload, 1) := by decide +kernel
theorem dX4_spreadStaying_98 : decode cX4_spreadStaying 98 = .ok (.ishl, 1) := by decide +kernel
theorem dX4_spreadStaying_99 : decode cX4_spreadStaying 99 = .ok (.ior, 1) := by decide +kernel
theorem dX4_spreadStaying_100 : decode cX4_spreadStaying 100 = .ok (.iastore, 1) := by decide +kernel
theorem dX4_spreadStaying_101 : decode cX4_spreadStaying 101 = .ok (.iconst 1, 1) := by decide +kernel
theorem dX4_spreadStaying_102 : decode cX4_spreadStaying 102 = .ok (.istore_n 3, 1) := by decide +kernel
theorem dX4_spreadStaying_103 : decode cX4_spreadStaying 103 = .ok (.iinc 5 1, 3) := by decide +kernel
theorem dX4_spreadStaying_106 : decode cX4_spreadStaying 106 = .ok (.goto (-80), 3) := by decide +kernel
theorem dX4_spreadStaying_109 : decode cX4_spreadStaying 109 = .ok (.iinc 4 1, 3) := by decide +kernel
theorem dX4_spreadStaying_112 : decode cX4_spreadStaying 112 = .ok (.goto (-107), 3) := by decide +kernel
theorem dX4_spreadStaying_115 : decode cX4_spreadStaying 115 = .ok (.return_, 1) := by decide +kernel
set_option maxRecDepth 20000 in
theorem ggX4_spreadReading_X4_isWayReading : GoodIn wsX4_spreadReading wsX4_isWayReading := goodIn_g _ [(12, 1), (5, 1), (13, 1), (6, 1), (14, 5), (11, 1), (19, 9), (1, 2), (28, 8), (40, 20)] (by exact rfl) (by decide +kernel)
set_option maxRecDepth 20000 in
theorem gX4_spreadReading_X4_isWayReading : GoodIn wsX4_spreadReading (wsV RX4 166 RX4 yX4_isWayReading wsX4_isWayReading) := goodIn_app (goodIn_of _ (by decide +kernel)) ggX4_spreadReading_X4_isWayReading
set_option maxRecDepth 20000 in
theorem ggX4_spreadReading_X7_holds : GoodIn wsX4_spreadReading wsX7_holds := goodIn_g _ [(16, 1)] (by exact rfl) (by decide +kernel)
set_option maxRecDepth 20000 in
theorem gX4_spreadReading_X7_holds_n113 : GoodIn wsX4_spreadReading (wsX7_holds) := ggX4_spreadReading_X7_holds
set_option maxRecDepth 20000 in
theorem ggX4_spreadReading_X4_cellAt : GoodIn wsX4_spreadReading wsX4_cellAt := goodIn_g _ [(19, 1)] (by exact rfl) (by decide +kernel)
set_option maxRecDepth 20000 in
theorem gX4_spreadReading_X4_cellAt : GoodIn wsX4_spreadReading (va_wsS RX4 117 yX4_cellAt wsX4_cellAt) := goodIn_app (goodIn_of _ (by decide +kernel)) ggX4_spreadReading_X4_cellAt
set_option maxRecDepth 20000 in
theorem ggX4_spreadReading_X4_costToSkip : GoodIn wsX4_spreadReading wsX4_costToSkip := goodIn_g _ [(39, 1), (26, 1), (25, 1), (40, 14)] (by exact rfl) (by decide +kernel)
set_option maxRecDepth 20000 in
theorem gX4_spreadReading_X4_costToSkip : GoodIn wsX4_spreadReading (wsV RX4 134 RX4 yX4_costToSkip wsX4_costToSkip) := goodIn_app (goodIn_of _ (by decide +kernel)) ggX4_spreadReading_X4_costToSkip
set_option maxRecDepth 20000 in
theorem ggX4_spreadReading_X4_isWay : GoodIn wsX4_spreadReading wsX4_isWay := goodIn_g _ [(32, 4), (40, 14)] (by exact rfl) (by decide +kernel)
set_option maxRecDepth 20000 in
theorem gX4_spreadReading_X4_isWay : GoodIn wsX4_spreadReading (wsV RX4 169 RX4 yX4_isWay wsX4_isWay) := goodIn_app (goodIn_of _ (by decide +kernel)) ggX4_spreadReading_X4_isWay
theorem dX4_spreadReading_0 : decode cX4_spreadReading 0 = .ok (.iconst 0, 1) := by decide +kernel
theorem dX4_spreadReading_1 : decode cX4_spreadReading 1 = .ok (.istore_n 3, 1) := by decide +kernel
theorem dX4_spreadReading_2 : decode cX4_spreadReading 2 = .ok (.iload_n 3, 1) := by decide +kernel
theorem dX4_spreadReading_3 : decode cX4_spreadReading 3 = .ok (.aload_n 0, 1) := by decide +kernel
theorem dX4_spreadReading_4 : decode cX4_spreadReading 4 = .ok (.getfield 22, 3) := by decide +kernel
theorem dX4_spreadReading_7 : decode cX4_spreadReading 7 = .ok (.getfield 78, 3) := by decide +kernel
theorem dX4_spreadReading_10 : decode cX4_spreadReading 10 = .ok (.getfield 82, 3) := by decide +kernel
theorem dX4_spreadReading_13 : decode cX4_spreadReading 13 = .ok (.if_icmp .ge 49, 3) := by decide +kernel
theorem dX4_spreadReading_16 : decode cX4_spreadReading 16 = .ok (.aload_n 0, 1) := by decide +kernel
theorem dX4_spreadReading_17 : decode cX4_spreadReading 17 = .ok (.getfield 39, 3) := by decide +kernel
theorem dX4_spreadReading_20 : decode cX4_spreadReading 20 = .ok (.iload_n 3, 1) := by decide +kernel
theorem dX4_spreadReading_21 : decode cX4_spreadReading 21 = .ok (.iaload, 1) := by decide +kernel
theorem dX4_spreadReading_22 : decode cX4_spreadReading 22 = .ok (.bipush 8, 2) := by decide +kernel
theorem dX4_spreadReading_24 : decode cX4_spreadReading 24 = .ok (.if_icmp .ne 32, 3) := by decide +kernel
theorem dX4_spreadReading_27 : decode cX4_spreadReading 27 = .ok (.aload_n 0, 1) := by decide +kernel
theorem dX4_spreadReading_28 : decode cX4_spreadReading 28 = .ok (.iload_n 3, 1) := by decide +kernel
theorem dX4_spreadReading_29 : decode cX4_spreadReading 29 = .ok (.iload_n 1, 1) := by decide +kernel
theorem dX4_spreadReading_30 : decode cX4_spreadReading 30 = .ok (.iload_n 2, 1) := by decide +kernel
theorem dX4_spreadReading_31 : decode cX4_spreadReading 31 = .ok (.invokevirtual 166, 3) := by decide +kernel
theorem dX4_spreadReading_34 : decode cX4_spreadReading 34 = .ok (.ifCond .eq 22, 3) := by decide +kernel
theorem dX4_spreadReading_37 : decode cX4_spreadReading 37 = .ok (.aload_n 0, 1) := by decide +kernel
theorem dX4_spreadReading_38 : decode cX4_spreadReading 38 = .ok (.getfield 48, 3) := by decide +kernel
theorem dX4_spreadReading_41 : decode cX4_spreadReading 41 = .ok (.iload_n 1, 1) := by decide +kernel
theorem dX4_spreadReading_42 : decode cX4_spreadReading 42 = .ok (.iconst 1, 1) := by decide +kernel
theorem dX4_spreadReading_43 : decode cX4_spreadReading 43 = .ok (.iadd, 1) := by decide +kernel
theorem dX4_spreadReading_44 : decode cX4_spreadReading 44 = .ok (.dup2, 1) := by decide +kernel
theorem dX4_spreadReading_45 : decode cX4_spreadReading 45 = .ok (.iaload, 1) := by decide +kernel
theorem dX4_spreadReading_46 : decode cX4_spreadReading 46 = .ok (.iconst 1, 1) := by decide +kernel
theorem dX4_spreadReading_47 : decode cX4_spreadReading 47 = .ok (.aload_n 0, 1) := by decide +kernel
theorem dX4_spreadReading_48 : decode cX4_spreadReading 48 = .ok (.getfield 42, 3) := by decide +kernel
theorem dX4_spreadReading_51 : decode cX4_spreadReading 51 = .ok (.iload_n 3, 1) := by decide +kernel
theorem dX4_spreadReading_52 : decode cX4_spreadReading 52 = .ok (.iaload, 1) := by decide +kernel
theorem dX4_spreadReading_53 : decode cX4_spreadReading 53 = .ok (.ishl, 1) := by decide +kernel
theorem dX4_spreadReading_54 : decode cX4_spreadReading 54 = .ok (.ior, 1) := by decide +kernel
theorem dX4_spreadReading_55 : decode cX4_spreadReading 55 = .ok (.iastore, 1) := by decide +kernel
theorem dX4_spreadReading_56 : decode cX4_spreadReading 56 = .ok (.iinc 3 1, 3) := by decide +kernel
theorem dX4_spreadReading_59 : decode cX4_spreadReading 59 = .ok (.goto (-57), 3) := by decide +kernel
theorem dX4_spreadReading_62 : decode cX4_spreadReading 62 = .ok (.iconst 0, 1) := by decide +kernel
theorem dX4_spreadReading_63 : decode cX4_spreadReading 63 = .ok (.istore_n 3, 1) := by decide +kernel
theorem dX4_spreadReading_64 : decode cX4_spreadReading 64 = .ok (.iload_n 3, 1) := by decide +kernel
theorem dX4_spreadReading_65 : decode cX4_spreadReading 65 = .ok (.aload_n 0, 1) := by decide +kernel
theorem dX4_spreadReading_66 : decode cX4_spreadReading 66 = .ok (.getfield 22, 3) := by decide +kernel
theorem dX4_spreadReading_69 : decode cX4_spreadReading 69 = .ok (.getfield 107, 3) := by decide +kernel
theorem dX4_spreadReading_72 : decode cX4_spreadReading 72 = .ok (.if_icmp .ge 60, 3) := by decide +kernel
theorem dX4_spreadReading_75 : decode cX4_spreadReading 75 = .ok (.aload_n 0, 1) := by decide +kernel
theorem dX4_spreadReading_76 : decode cX4_spreadReading 76 = .ok (.getfield 48, 3) := by decide +kernel
theorem dX4_spreadReading_79 : decode cX4_spreadReading 79 = .ok (.iload_n 1, 1) := by decide +kernel
theorem dX4_spreadReading_80 : decode cX4_spreadReading 80 = .ok (.iaload, 1) := by decide +kernel
theorem dX4_spreadReading_81 : decode cX4_spreadReading 81 = .ok (.iload_n 3, 1) := by decide +kernel
theorem dX4_spreadReading_82 : decode cX4_spreadReading 82 = .ok (.invokestatic 113, 3) := by decide +kernel
theorem dX4_spreadReading_85 : decode cX4_spreadReading 85 = .ok (.ifCond .eq 41, 3) := by decide +kernel
theorem dX4_spreadReading_88 : decode cX4_spreadReading 88 = .ok (.aload_n 0, 1) := by decide +kernel
theorem dX4_spreadReading_89 : decode cX4_spreadReading 89 = .ok (.iload_n 2, 1) := by decide +kernel
theorem dX4_spreadReading_90 : decode cX4_spreadReading 90 = .ok (.iload_n 3, 1) := by decide +kernel
theorem dX4_spreadReading_91 : decode cX4_spreadReading 91 = .ok (.invokestatic 117, 3) := by decide +kernel
theorem dX4_spreadReading_94 : decode cX4_spreadReading 94 = .ok (.aload_n 0, 1) := by decide +kernel
theorem dX4_spreadReading_95 : decode cX4_spreadReading 95 = .ok (.iload_n 2, 1) := by decide +kernel
theorem dX4_spreadReading_96 : decode cX4_spreadReading 96 = .ok (.invokevirtual 134, 3) := by decide +kernel
theorem dX4_spreadReading_99 : decode cX4_spreadReading 99 = .ok (.iload_n 2, 1) := by decide +kernel
theorem dX4_spreadReading_100 : decode cX4_spreadReading 100 = .ok (.iconst 1, 1) := by decide +kernel
theorem dX4_spreadReading_101 : decode cX4_spreadReading 101 = .ok (.iadd, 1) := by decide +kernel
theorem dX4_spreadReading_102 : decode cX4_spreadReading 102 = .ok (.iload_n 3, 1) := by decide +kernel
theorem dX4_spreadReading_103 : decode cX4_spreadReading 103 = .ok (.invokestatic 117, 3) := by decide +kernel
theorem dX4_spreadReading_106 : decode cX4_spreadReading 106 = .ok (.invokevirtual 169, 3) := by decide +kernel
theorem dX4_spreadReading_109 : decode cX4_spreadReading 109 = .ok (.ifCond .eq 17, 3) := by decide +kernel
theorem dX4_spreadReading_112 : decode cX4_spreadReading 112 = .ok (.aload_n 0, 1) := by decide +kernel
theorem dX4_spreadReading_113 : decode cX4_spreadReading 113 = .ok (.getfield 48, 3) := by decide +kernel
theorem dX4_spreadReading_116 : decode cX4_spreadReading 116 = .ok (.iload_n 1, 1) := by decide +kernel
theorem dX4_spreadReading_117 : decode cX4_spreadReading 117 = .ok (.iconst 1, 1) := by decide +kernel
theorem dX4_spreadReading_118 : decode cX4_spreadReading 118 = .ok (.iadd, 1) := by decide +kernel
theorem dX4_spreadReading_119 : decode cX4_spreadReading 119 = .ok (.dup2, 1) := by decide +kernel
theorem dX4_spreadReading_120 : decode cX4_spreadReading 120 = .ok (.iaload, 1) := by decide +kernel
theorem dX4_spreadReading_121 : decode cX4_spreadReading 121 = .ok (.iconst 1, 1) := by decide +kernel
theorem dX4_spreadReading_122 : decode cX4_spreadReading 122 = .ok (.iload_n 3, 1) := by decide +kernel
theorem dX4_spreadReading_123 : decode cX4_spreadReading 123 = .ok (.ishl, 1) := by decide +kernel
theorem dX4_spreadReading_124 : decode cX4_spreadReading 124 = .ok (.ior, 1) := by decide +kernel
theorem dX4_spreadReading_125 : decode cX4_spreadReading 125 = .ok (.iastore, 1) := by decide +kernel
theorem dX4_spreadReading_126 : decode cX4_spreadReading 126 = .ok (.iinc 3 1, 3) := by decide +kernel
theorem dX4_spreadReading_129 : decode cX4_spreadReading 129 = .ok (.goto (-65), 3) := by decide +kernel
theorem dX4_spreadReading_132 : decode cX4_spreadReading 132 = .ok (.return_, 1) := by decide +kernel
set_option maxRecDepth 20000 in
theorem ggX4_lettersFrom_X7_holds : GoodIn wsX4_lettersFrom wsX7_holds := goodIn_g _ [(9, 1)] (by exact rfl) (by decide +kernel)
set_option maxRecDepth 20000 in
theorem gX4_lettersFrom_X7_holds_n113 : GoodIn wsX4_lettersFrom (wsX7_holds) := ggX4_lettersFrom_X7_holds
set_option maxRecDepth 20000 in
theorem ggX4_lettersFrom_X4_isWayStaying : GoodIn wsX4_lettersFrom wsX4_isWayStaying := goodIn_g _ [(14, 1), (2, 1), (15, 2), (7, 3), (17, 2), (13, 1), (19, 7), (3, 2), (26, 8), (43, 20)] (by exact rfl) (by decide +kernel)
set_option maxRecDepth 20000 in
theorem gX4_lettersFrom_X4_isWayStaying : GoodIn wsX4_lettersFrom (wsV RX4 163 RX4 yX4_isWayStaying wsX4_isWayStaying) := goodIn_app (goodIn_of _ (by decide +kernel)) ggX4_lettersFrom_X4_isWayStaying
set_option maxRecDepth 20000 in
theorem ggX4_lettersFrom_X4_isWayReading : GoodIn wsX4_lettersFrom wsX4_isWayReading := goodIn_g _ [(37, 1), (2, 1), (15, 2), (7, 3), (17, 2), (13, 1), (19, 1), (38, 4), (25, 1), (1, 1), (24, 1), (42, 1), (3, 2), (26, 8), (43, 20)] (by exact rfl) (by decide +kernel)
set_option maxRecDepth 20000 in
theorem gX4_lettersFrom_X4_isWayReading : GoodIn wsX4_lettersFrom (wsV RX4 166 RX4 yX4_isWayReading wsX4_isWayReading) := goodIn_app (goodIn_of _ (by decide +kernel)) ggX4_lettersFrom_X4_isWayReading
theorem dX4_lettersFrom_0 : decode cX4_lettersFrom 0 = .ok (.iconst 0, 1) := by decide +kernel
theorem dX4_lettersFrom_1 : decode cX4_lettersFrom 1 = .ok (.istore_n 2, 1) := by decide +kernel
theorem dX4_lettersFrom_2 : decode cX4_lettersFrom 2 = .ok (.iconst 0, 1) := by decide +kernel
theorem dX4_lettersFrom_3 : decode cX4_lettersFrom 3 = .ok (.istore_n 3, 1) := by decide +kernel
theorem dX4_lettersFrom_4 : decode cX4_lettersFrom 4 = .ok (.iload_n 3, 1) := by decide +kernel
theorem dX4_lettersFrom_5 : decode cX4_lettersFrom 5 = .ok (.aload_n 0, 1) := by decide +kernel
theorem dX4_lettersFrom_6 : decode cX4_lettersFrom 6 = .ok (.getfield 15, 3) := by decide +kernel
theorem dX4_lettersFrom_9 : decode cX4_lettersFrom 9 = .ok (.if_icmp .gt 113, 3) := by decide +kernel
theorem dX4_lettersFrom_12 : decode cX4_lettersFrom 12 = .ok (.iload_n 1, 1) := by decide +kernel
theorem dX4_lettersFrom_13 : decode cX4_lettersFrom 13 = .ok (.bipush 9, 2) := by decide +kernel
theorem dX4_lettersFrom_15 : decode cX4_lettersFrom 15 = .ok (.imul, 1) := by decide +kernel
theorem dX4_lettersFrom_16 : decode cX4_lettersFrom 16 = .ok (.iload_n 3, 1) := by decide +kernel
theorem dX4_lettersFrom_17 : decode cX4_lettersFrom 17 = .ok (.iadd, 1) := by decide +kernel
theorem dX4_lettersFrom_18 : decode cX4_lettersFrom 18 = .ok (.istore 4, 2) := by decide +kernel
theorem dX4_lettersFrom_20 : decode cX4_lettersFrom 20 = .ok (.aload_n 0, 1) := by decide +kernel
theorem dX4_lettersFrom_21 : decode cX4_lettersFrom 21 = .ok (.getfield 48, 3) := by decide +kernel
theorem dX4_lettersFrom_24 : decode cX4_lettersFrom 24 = .ok (.iload 4, 2) := by decide +kernel
theorem dX4_lettersFrom_26 : decode cX4_lettersFrom 26 = .ok (.iaload, 1) := by decide +kernel
theorem dX4_lettersFrom_27 : decode cX4_lettersFrom 27 = .ok (.ifCond .eq 89, 3) := by decide +kernel
theorem dX4_lettersFrom_30 : decode cX4_lettersFrom 30 = .ok (.iconst 0, 1) := by decide +kernel
theorem dX4_lettersFrom_31 : decode cX4_lettersFrom 31 = .ok (.istore 5, 2) := by decide +kernel
theorem dX4_lettersFrom_33 : decode cX4_lettersFrom 33 = .ok (.iload 5, 2) := by decide +kernel
theorem dX4_lettersFrom_35 : decode cX4_lettersFrom 35 = .ok (.aload_n 0, 1) := by decide +kernel
theorem dX4_lettersFrom_36 : decode cX4_lettersFrom 36 = .ok (.getfield 22, 3) := by decide +kernel
theorem dX4_lettersFrom_39 : decode cX4_lettersFrom 39 = .ok (.getfield 78, 3) := by decide +kernel
theorem dX4_lettersFrom_42 : decode cX4_lettersFrom 42 = .ok (.getfield 82, 3) := by decide +kernel
theorem dX4_lettersFrom_45 : decode cX4_lettersFrom 45 = .ok (.if_icmp .ge 71, 3) := by decide +kernel
theorem dX4_lettersFrom_48 : decode cX4_lettersFrom 48 = .ok (.aload_n 0, 1) := by decide +kernel
theorem dX4_lettersFrom_49 : decode cX4_lettersFrom 49 = .ok (.getfield 39, 3) := by decide +kernel
theorem dX4_lettersFrom_52 : decode cX4_lettersFrom 52 = .ok (.iload 5, 2) := by decide +kernel
theorem dX4_lettersFrom_54 : decode cX4_lettersFrom 54 = .ok (.iaload, 1) := by decide +kernel
theorem dX4_lettersFrom_55 : decode cX4_lettersFrom 55 = .ok (.bipush 8, 2) := by decide +kernel
theorem dX4_lettersFrom_57 : decode cX4_lettersFrom 57 = .ok (.if_icmp .eq 53, 3) := by decide +kernel
theorem dX4_lettersFrom_60 : decode cX4_lettersFrom 60 = .ok (.iload_n 2, 1) := by decide +kernel
theorem dX4_lettersFrom_61 : decode cX4_lettersFrom 61 = .ok (.aload_n 0, 1) := by decide +kernel
theorem dX4_lettersFrom_62 : decode cX4_lettersFrom 62 = .ok (.getfield 39, 3) := by decide +kernel
theorem dX4_lettersFrom_65 : decode cX4_lettersFrom 65 = .ok (.iload 5, 2) := by decide +kernel
theorem dX4_lettersFrom_67 : decode cX4_lettersFrom 67 = .ok (.iaload, 1) := by decide +kernel
theorem dX4_lettersFrom_68 : decode cX4_lettersFrom 68 = .ok (.invokestatic 113, 3) := by decide +kernel
theorem dX4_lettersFrom_71 : decode cX4_lettersFrom 71 = .ok (.ifCond .ne 39, 3) := by decide +kernel
theorem dX4_lettersFrom_74 : decode cX4_lettersFrom 74 = .ok (.aload_n 0, 1) := by decide +kernel
theorem dX4_lettersFrom_75 : decode cX4_lettersFrom 75 = .ok (.iload 5, 2) := by decide +kernel
theorem dX4_lettersFrom_77 : decode cX4_lettersFrom 77 = .ok (.iload 4, 2) := by decide +kernel
theorem dX4_lettersFrom_79 : decode cX4_lettersFrom 79 = .ok (.iload_n 3, 1) := by decide +kernel
theorem dX4_lettersFrom_80 : decode cX4_lettersFrom 80 = .ok (.invokevirtual 163, 3) := by decide +kernel
theorem dX4_lettersFrom_83 : decode cX4_lettersFrom 83 = .ok (.ifCond .ne 15, 3) := by decide +kernel
theorem dX4_lettersFrom_86 : decode cX4_lettersFrom 86 = .ok (.aload_n 0, 1) := by decide +kernel
theorem dX4_lettersFrom_87 : decode cX4_lettersFrom 87 = .ok (.iload 5, 2) := by decide +kernel
theorem dX4_lettersFrom_89 : decode cX4_lettersFrom 89 = .ok (.iload 4, 2) := by decide +kernel
theorem dX4_lettersFrom_91 : decode cX4_lettersFrom 91 = .ok (.iload_n 3, 1) := by decide +kernel
theorem dX4_lettersFrom_92 : decode cX4_lettersFrom 92 = .ok (.invokevirtual 166, 3) := by decide +kernel
theorem dX4_lettersFrom_95 : decode cX4_lettersFrom 95 = .ok (.ifCond .eq 15, 3) := by decide +kernel
theorem dX4_lettersFrom_98 : decode cX4_lettersFrom 98 = .ok (.iload_n 2, 1) := by decide +kernel
theorem dX4_lettersFrom_99 : decode cX4_lettersFrom 99 = .ok (.iconst 1, 1) := by decide +kernel
theorem dX4_lettersFrom_100 : decode cX4_lettersFrom 100 = .ok (.aload_n 0, 1) := by decide +kernel
theorem dX4_lettersFrom_101 : decode cX4_lettersFrom 101 = .ok (.getfield 39, 3) := by decide +kernel
theorem dX4_lettersFrom_104 : decode cX4_lettersFrom 104 = .ok (.iload 5, 2) := by decide +kernel
theorem dX4_lettersFrom_106 : decode cX4_lettersFrom 106 = .ok (.iaload, 1) := by decide +kernel
theorem dX4_lettersFrom_107 : decode cX4_lettersFrom 107 = .ok (.ishl, 1) := by decide +kernel
theorem dX4_lettersFrom_108 : decode cX4_lettersFrom 108 = .ok (.ior, 1) := by decide +kernel
theorem dX4_lettersFrom_109 : decode cX4_lettersFrom 109 = .ok (.istore_n 2, 1) := by decide +kernel
theorem dX4_lettersFrom_110 : decode cX4_lettersFrom 110 = .ok (.iinc 5 1, 3) := by decide +kernel
theorem dX4_lettersFrom_113 : decode cX4_lettersFrom 113 = .ok (.goto (-80), 3) := by decide +kernel
theorem dX4_lettersFrom_116 : decode cX4_lettersFrom 116 = .ok (.iinc 3 1, 3) := by decide +kernel
theorem dX4_lettersFrom_119 : decode cX4_lettersFrom 119 = .ok (.goto (-115), 3) := by decide +kernel
theorem dX4_lettersFrom_122 : decode cX4_lettersFrom 122 = .ok (.iload_n 2, 1) := by decide +kernel
theorem dX4_lettersFrom_123 : decode cX4_lettersFrom 123 = .ok (.ireturn, 1) := by decide +kernel
set_option maxRecDepth 20000 in
theorem ggX4_step_X4_clearSets : GoodIn wsX4_step wsX4_clearSets := goodIn_g _ [(12, 1), (2, 1), (47, 14)] (by exact rfl) (by decide +kernel)
set_option maxRecDepth 20000 in
theorem gX4_step_X4_clearSets : GoodIn wsX4_step (wsV RX4 140 RX4 yX4_clearSets wsX4_clearSets) := goodIn_app (goodIn_of _ (by decide +kernel)) ggX4_step_X4_clearSets
set_option maxRecDepth 20000 in
theorem ggX4_step_X4_isWayStaying : GoodIn wsX4_step wsX4_isWayStaying := goodIn_g _ [(16, 1), (2, 1), (17, 1), (7, 1), (18, 5), (11, 1), (23, 7), (3, 2), (30, 8), (47, 20)] (by exact rfl) (by decide +kernel)
set_option maxRecDepth 20000 in
theorem gX4_step_X4_isWayStaying : GoodIn wsX4_step (wsV RX4 163 RX4 yX4_isWayStaying wsX4_isWayStaying) := goodIn_app (goodIn_of _ (by decide +kernel)) ggX4_step_X4_isWayStaying
set_option maxRecDepth 20000 in
theorem ggX4_step_X4_isWayReading : GoodIn wsX4_step wsX4_isWayReading := goodIn_g _ [(41, 1), (2, 1), (17, 1), (7, 1), (18, 5), (11, 1), (23, 1), (42, 4), (29, 1), (1, 1), (28, 1), (46, 1), (3, 2), (30, 8), (47, 20)] (by exact rfl) (by decide +kernel)
set_option maxRecDepth 20000 in
theorem gX4_step_X4_isWayReading : GoodIn wsX4_step (wsV RX4 166 RX4 yX4_isWayReading wsX4_isWayReading) := goodIn_app (goodIn_of _ (by decide +kernel)) ggX4_step_X4_isWayReading
theorem dX4_step_0 : decode cX4_step 0 = .ok (.aload_n 0, 1) := by decide +kernel
theorem dX4_step_1 : decode cX4_step 1 = .ok (.iload_n 1, 1) := by decide +kernel
theorem dX4_step_2 : decode cX4_step 2 = .ok (.iconst 1, 1) := by decide +kernel
theorem dX4_step_3 : decode cX4_step 3 = .ok (.iadd, 1) := by decide +kernel
theorem dX4_step_4 : decode cX4_step 4 = .ok (.invokevirtual 140, 3) := by decide +kernel
theorem dX4_step_7 : decode cX4_step 7 = .ok (.iconst 0, 1) := by decide +kernel
theorem dX4_step_8 : decode cX4_step 8 = .ok (.istore_n 3, 1) := by decide +kernel
theorem dX4_step_9 : decode cX4_step 9 = .ok (.iload_n 3, 1) := by decide +kernel
theorem dX4_step_10 : decode cX4_step 10 = .ok (.aload_n 0, 1) := by decide +kernel
theorem dX4_step_11 : decode cX4_step 11 = .ok (.getfield 15, 3) := by decide +kernel
theorem dX4_step_14 : decode cX4_step 14 = .ok (.if_icmp .gt 143, 3) := by decide +kernel
theorem dX4_step_17 : decode cX4_step 17 = .ok (.iload_n 1, 1) := by decide +kernel
theorem dX4_step_18 : decode cX4_step 18 = .ok (.bipush 9, 2) := by decide +kernel
theorem dX4_step_20 : decode cX4_step 20 = .ok (.imul, 1) := by decide +kernel
theorem dX4_step_21 : decode cX4_step 21 = .ok (.iload_n 3, 1) := by decide +kernel
theorem dX4_step_22 : decode cX4_step 22 = .ok (.iadd, 1) := by decide +kernel
theorem dX4_step_23 : decode cX4_step 23 = .ok (.istore 4, 2) := by decide +kernel
theorem dX4_step_25 : decode cX4_step 25 = .ok (.aload_n 0, 1) := by decide +kernel
theorem dX4_step_26 : decode cX4_step 26 = .ok (.getfield 48, 3) := by decide +kernel
theorem dX4_step_29 : decode cX4_step 29 = .ok (.iload 4, 2) := by decide +kernel
theorem dX4_step_31 : decode cX4_step 31 = .ok (.iaload, 1) := by decide +kernel
theorem dX4_step_32 : decode cX4_step 32 = .ok (.ifCond .eq 119, 3) := by decide +kernel
theorem dX4_step_35 : decode cX4_step 35 = .ok (.iconst 0, 1) := by decide +kernel
theorem dX4_step_36 : decode cX4_step 36 = .ok (.istore 5, 2) := by decide +kernel
theorem dX4_step_38 : decode cX4_step 38 = .ok (.iload 5, 2) := by decide +kernel
theorem dX4_step_40 : decode cX4_step 40 = .ok (.aload_n 0, 1) := by decide +kernel
theorem dX4_step_41 : decode cX4_step 41 = .ok (.getfield 22, 3) := by decide +kernel
theorem dX4_step_44 : decode cX4_step 44 = .ok (.getfield 78, 3) := by decide +kernel
theorem dX4_step_47 : decode cX4_step 47 = .ok (.getfield 82, 3) := by decide +kernel
theorem dX4_step_50 : decode cX4_step 50 = .ok (.if_icmp .ge 101, 3) := by decide +kernel
theorem dX4_step_53 : decode cX4_step 53 = .ok (.aload_n 0, 1) := by decide +kernel
theorem dX4_step_54 : decode cX4_step 54 = .ok (.getfield 39, 3) := by decide +kernel
theorem dX4_step_57 : decode cX4_step 57 = .ok (.iload 5, 2) := by decide +kernel
theorem dX4_step_59 : decode cX4_step 59 = .ok (.iaload, 1) := by decide +kernel
theorem dX4_step_60 : decode cX4_step 60 = .ok (.iload_n 2, 1) := by decide +kernel
theorem dX4_step_61 : decode cX4_step 61 = .ok (.if_icmp .ne 37, 3) := by decide +kernel
theorem dX4_step_64 : decode cX4_step 64 = .ok (.aload_n 0, 1) := by decide +kernel
theorem dX4_step_65 : decode cX4_step 65 = .ok (.iload 5, 2) := by decide +kernel
theorem dX4_step_67 : decode cX4_step 67 = .ok (.iload 4, 2) := by decide +kernel
theorem dX4_step_69 : decode cX4_step 69 = .ok (.iload_n 3, 1) := by decide +kernel
theorem dX4_step_70 : decode cX4_step 70 = .ok (.invokevirtual 163, 3) := by decide +kernel
theorem dX4_step_73 : decode cX4_step 73 = .ok (.ifCond .eq 25, 3) := by decide +kernel
theorem dX4_step_76 : decode cX4_step 76 = .ok (.aload_n 0, 1) := by decide +kernel
theorem dX4_step_77 : decode cX4_step 77 = .ok (.getfield 48, 3) := by decide +kernel
theorem dX4_step_80 : decode cX4_step 80 = .ok (.iload 4, 2) := by decide +kernel
theorem dX4_step_82 : decode cX4_step 82 = .ok (.bipush 9, 2) := by decide +kernel
theorem dX4_step_84 : decode cX4_step 84 = .ok (.iadd, 1) := by decide +kernel
theorem dX4_step_85 : decode cX4_step 85 = .ok (.dup2, 1) := by decide +kernel
theorem dX4_step_86 : decode cX4_step 86 = .ok (.iaload, 1) := by decide +kernel
theorem dX4_step_87 : decode cX4_step 87 = .ok (.iconst 1, 1) := by decide +kernel
theorem dX4_step_88 : decode cX4_step 88 = .ok (.aload_n 0, 1) := by decide +kernel
theorem dX4_step_89 : decode cX4_step 89 = .ok (.getfield 42, 3) := by decide +kernel
theorem dX4_step_92 : decode cX4_step 92 = .ok (.iload 5, 2) := by decide +kernel
theorem dX4_step_94 : decode cX4_step 94 = .ok (.iaload, 1) := by decide +kernel
theorem dX4_step_95 : decode cX4_step 95 = .ok (.ishl, 1) := by decide +kernel
theorem dX4_step_96 : decode cX4_step 96 = .ok (.ior, 1) := by decide +kernel
theorem dX4_step_97 : decode cX4_step 97 = .ok (.iastore, 1) := by decide +kernel
theorem dX4_step_98 : decode cX4_step 98 = .ok (.aload_n 0, 1) := by decide +kernel
theorem dX4_step_99 : decode cX4_step 99 = .ok (.getfield 39, 3) := by decide +kernel
theorem dX4_step_102 : decode cX4_step 102 = .ok (.iload 5, 2) := by decide +kernel
theorem dX4_step_104 : decode cX4_step 104 = .ok (.iaload, 1) := by decide +kernel
theorem dX4_step_105 : decode cX4_step 105 = .ok (.iload_n 2, 1) := by decide +kernel
theorem dX4_step_106 : decode cX4_step 106 = .ok (.if_icmp .ne 39, 3) := by decide +kernel
theorem dX4_step_109 : decode cX4_step 109 = .ok (.aload_n 0, 1) := by decide +kernel
theorem dX4_step_110 : decode cX4_step 110 = .ok (.iload 5, 2) := by decide +kernel
theorem dX4_step_112 : decode cX4_step 112 = .ok (.iload 4, 2) := by decide +kernel
theorem dX4_step_114 : decode cX4_step 114 = .ok (.iload_n 3, 1) := by decide +kernel
theorem dX4_step_115 : decode cX4_step 115 = .ok (.invokevirtual 166, 3) := by decide +kernel
theorem dX4_step_118 : decode cX4_step 118 = .ok (.ifCond .eq 27, 3) := by decide +kernel
theorem dX4_step_121 : decode cX4_step 121 = .ok (.aload_n 0, 1) := by decide +kernel
theorem dX4_step_122 : decode cX4_step 122 = .ok (.getfield 48, 3) := by decide +kernel
theorem dX4_step_125 : decode cX4_step 125 = .ok (.iload 4, 2) := by decide +kernel
theorem dX4_step_127 : decode cX4_step 127 = .ok (.bipush 9, 2) := by decide +kernel
theorem dX4_step_129 : decode cX4_step 129 = .ok (.iadd, 1) := by decide +kernel
theorem dX4_step_130 : decode cX4_step 130 = .ok (.iconst 1, 1) := by decide +kernel
theorem dX4_step_131 : decode cX4_step 131 = .ok (.iadd, 1) := by decide +kernel
theorem dX4_step_132 : decode cX4_step 132 = .ok (.dup2, 1) := by decide +kernel
theorem dX4_step_133 : decode cX4_step 133 = .ok (.iaload, 1) := by decide +kernel
theorem dX4_step_134 : decode cX4_step 134 = .ok (.iconst 1, 1) := by decide +kernel
theorem dX4_step_135 : decode cX4_step 135 = .ok (.aload_n 0, 1) := by decide +kernel
theorem dX4_step_136 : decode cX4_step 136 = .ok (.getfield 42, 3) := by decide +kernel
theorem dX4_step_139 : decode cX4_step 139 = .ok (.iload 5, 2) := by decide +kernel
theorem dX4_step_141 : decode cX4_step 141 = .ok (.iaload, 1) := by decide +kernel
theorem dX4_step_142 : decode cX4_step 142 = .ok (.ishl, 1) := by decide +kernel
theorem dX4_step_143 : decode cX4_step 143 = .ok (.ior, 1) := by decide +kernel
theorem dX4_step_144 : decode cX4_step 144 = .ok (.iastore, 1) := by decide +kernel
theorem dX4_step_145 : decode cX4_step 145 = .ok (.iinc 5 1, 3) := by decide +kernel
theorem dX4_step_148 : decode cX4_step 148 = .ok (.goto (-110), 3) := by decide +kernel
theorem dX4_step_151 : decode cX4_step 151 = .ok (.iinc 3 1, 3) := by decide +kernel
theorem dX4_step_154 : decode cX4_step 154 = .ok (.goto (-145), 3) := by decide +kernel
theorem dX4_step_157 : decode cX4_step 157 = .ok (.return_, 1) := by decide +kernel
set_option maxRecDepth 20000 in
theorem ggX4_isWayStaying_X7_holds : GoodIn wsX4_isWayStaying wsX7_holds := goodIn_g _ [(6, 1)] (by exact rfl) (by decide +kernel)
set_option maxRecDepth 20000 in
theorem gX4_isWayStaying_X7_holds_n113 : GoodIn wsX4_isWayStaying (wsX7_holds) := ggX4_isWayStaying_X7_holds
set_option maxRecDepth 20000 in
theorem ggX4_isWayStaying_X4_cellAt : GoodIn wsX4_isWayStaying wsX4_cellAt := goodIn_g _ [(10, 1)] (by exact rfl) (by decide +kernel)
set_option maxRecDepth 20000 in
theorem gX4_isWayStaying_X4_cellAt : GoodIn wsX4_isWayStaying (va_wsS RX4 117 yX4_cellAt wsX4_cellAt) := goodIn_app (goodIn_of _ (by decide +kernel)) ggX4_isWayStaying_X4_cellAt
set_option maxRecDepth 20000 in
theorem ggX4_isWayStaying_X4_costToStay : GoodIn wsX4_isWayStaying wsX4_costToStay := goodIn_g _ [(14, 6), (27, 20)] (by exact rfl) (by decide +kernel)
set_option maxRecDepth 20000 in
theorem gX4_isWayStaying_X4_costToStay : GoodIn wsX4_isWayStaying (wsV RX4 137 RX4 yX4_costToStay wsX4_costToStay) := goodIn_app (goodIn_of _ (by decide +kernel)) ggX4_isWayStaying_X4_costToStay
set_option maxRecDepth 20000 in
theorem ggX4_isWayStaying_X4_isWay : GoodIn wsX4_isWayStaying wsX4_isWay := goodIn_g _ [(23, 18)] (by exact rfl) (by decide +kernel)
set_option maxRecDepth 20000 in
theorem gX4_isWayStaying_X4_isWay : GoodIn wsX4_isWayStaying (wsV RX4 169 RX4 yX4_isWay wsX4_isWay) := goodIn_app (goodIn_of _ (by decide +kernel)) ggX4_isWayStaying_X4_isWay
theorem dX4_isWayStaying_0 : decode cX4_isWayStaying 0 = .ok (.aload_n 0, 1) := by decide +kernel
theorem dX4_isWayStaying_1 : decode cX4_isWayStaying 1 = .ok (.getfield 48, 3) := by decide +kernel
theorem dX4_isWayStaying_4 : decode cX4_isWayStaying 4 = .ok (.iload_n 2, 1) := by decide +kernel
theorem dX4_isWayStaying_5 : decode cX4_isWayStaying 5 = .ok (.iaload, 1) := by decide +kernel
theorem dX4_isWayStaying_6 : decode cX4_isWayStaying 6 = .ok (.aload_n 0, 1) := by decide +kernel
theorem dX4_isWayStaying_7 : decode cX4_isWayStaying 7 = .ok (.getfield 33, 3) := by decide +kernel
theorem dX4_isWayStaying_10 : decode cX4_isWayStaying 10 = .ok (.iload_n 1, 1) := by decide +kernel
theorem dX4_isWayStaying_11 : decode cX4_isWayStaying 11 = .ok (.iaload, 1) := by decide +kernel
theorem dX4_isWayStaying_12 : decode cX4_isWayStaying 12 = .ok (.invokestatic 113, 3) := by decide +kernel
theorem dX4_isWayStaying_15 : decode cX4_isWayStaying 15 = .ok (.ifCond .eq 39, 3) := by decide +kernel
theorem dX4_isWayStaying_18 : decode cX4_isWayStaying 18 = .ok (.aload_n 0, 1) := by decide +kernel
theorem dX4_isWayStaying_19 : decode cX4_isWayStaying 19 = .ok (.iload_n 3, 1) := by decide +kernel
theorem dX4_isWayStaying_20 : decode cX4_isWayStaying 20 = .ok (.aload_n 0, 1) := by decide +kernel
theorem dX4_isWayStaying_21 : decode cX4_isWayStaying 21 = .ok (.getfield 33, 3) := by decide +kernel
theorem dX4_isWayStaying_24 : decode cX4_isWayStaying 24 = .ok (.iload_n 1, 1) := by decide +kernel
theorem dX4_isWayStaying_25 : decode cX4_isWayStaying 25 = .ok (.iaload, 1) := by decide +kernel
theorem dX4_isWayStaying_26 : decode cX4_isWayStaying 26 = .ok (.invokestatic 117, 3) := by decide +kernel
theorem dX4_isWayStaying_29 : decode cX4_isWayStaying 29 = .ok (.aload_n 0, 1) := by decide +kernel
theorem dX4_isWayStaying_30 : decode cX4_isWayStaying 30 = .ok (.iload_n 1, 1) := by decide +kernel
theorem dX4_isWayStaying_31 : decode cX4_isWayStaying 31 = .ok (.invokevirtual 137, 3) := by decide +kernel
theorem dX4_isWayStaying_34 : decode cX4_isWayStaying 34 = .ok (.iload_n 3, 1) := by decide +kernel
theorem dX4_isWayStaying_35 : decode cX4_isWayStaying 35 = .ok (.aload_n 0, 1) := by decide +kernel
theorem dX4_isWayStaying_36 : decode cX4_isWayStaying 36 = .ok (.getfield 42, 3) := by decide +kernel
theorem dX4_isWayStaying_39 : decode cX4_isWayStaying 39 = .ok (.iload_n 1, 1) := by decide +kernel
theorem dX4_isWayStaying_40 : decode cX4_isWayStaying 40 = .ok (.iaload, 1) := by decide +kernel
theorem dX4_isWayStaying_41 : decode cX4_isWayStaying 41 = .ok (.invokestatic 117, 3) := by decide +kernel
theorem dX4_isWayStaying_44 : decode cX4_isWayStaying 44 = .ok (.invokevirtual 169, 3) := by decide +kernel
theorem dX4_isWayStaying_47 : decode cX4_isWayStaying 47 = .ok (.ifCond .eq 7, 3) := by decide +kernel
theorem dX4_isWayStaying_50 : decode cX4_isWayStaying 50 = .ok (.iconst 1, 1) := by decide +kernel
theorem dX4_isWayStaying_51 : decode cX4_isWayStaying 51 = .ok (.goto 4, 3) := by decide +kernel
theorem dX4_isWayStaying_54 : decode cX4_isWayStaying 54 = .ok (.iconst 0, 1) := by decide +kernel
theorem dX4_isWayStaying_55 : decode cX4_isWayStaying 55 = .ok (.ireturn, 1) := by decide +kernel
set_option maxRecDepth 20000 in
theorem ggX4_isWayReading_X7_holds : GoodIn wsX4_isWayReading wsX7_holds := goodIn_g _ [(6, 1)] (by exact rfl) (by decide +kernel)
set_option maxRecDepth 20000 in
theorem gX4_isWayReading_X7_holds_n113 : GoodIn wsX4_isWayReading (wsX7_holds) := ggX4_isWayReading_X7_holds
set_option maxRecDepth 20000 in
theorem ggX4_isWayReading_X4_cellAt : GoodIn wsX4_isWayReading wsX4_cellAt := goodIn_g _ [(10, 1)] (by exact rfl) (by decide +kernel)
set_option maxRecDepth 20000 in
theorem gX4_isWayReading_X4_cellAt : GoodIn wsX4_isWayReading (va_wsS RX4 117 yX4_cellAt wsX4_cellAt) := goodIn_app (goodIn_of _ (by decide +kernel)) ggX4_isWayReading_X4_cellAt
set_option maxRecDepth 20000 in
theorem ggX4_isWayReading_X4_costToRead : GoodIn wsX4_isWayReading wsX4_costToRead := goodIn_g _ [(14, 8), (29, 20)] (by exact rfl) (by decide +kernel)
set_option maxRecDepth 20000 in
theorem gX4_isWayReading_X4_costToRead : GoodIn wsX4_isWayReading (wsV RX4 127 RX4 yX4_costToRead wsX4_costToRead) := goodIn_app (goodIn_of _ (by decide +kernel)) ggX4_isWayReading_X4_costToRead
set_option maxRecDepth 20000 in
theorem ggX4_isWayReading_X4_isWay : GoodIn wsX4_isWayReading wsX4_isWay := goodIn_g _ [(25, 18)] (by exact rfl) (by decide +kernel)
set_option maxRecDepth 20000 in
theorem gX4_isWayReading_X4_isWay : GoodIn wsX4_isWayReading (wsV RX4 169 RX4 yX4_isWay wsX4_isWay) := goodIn_app (goodIn_of _ (by decide +kernel)) ggX4_isWayReading_X4_isWay
theorem dX4_isWayReading_0 : decode cX4_isWayReading 0 = .ok (.aload_n 0, 1) := by decide +kernel
theorem dX4_isWayReading_1 : decode cX4_isWayReading 1 = .ok (.getfield 48, 3) := by decide +kernel
theorem dX4_isWayReading_4 : decode cX4_isWayReading 4 = .ok (.iload_n 2, 1) := by decide +kernel
theorem dX4_isWayReading_5 : decode cX4_isWayReading 5 = .ok (.iaload, 1) := by decide +kernel
theorem dX4_isWayReading_6 : decode cX4_isWayReading 6 = .ok (.aload_n 0, 1) := by decide +kernel
theorem dX4_isWayReading_7 : decode cX4_isWayReading 7 = .ok (.getfield 33, 3) := by decide +kernel
theorem dX4_isWayReading_10 : decode cX4_isWayReading 10 = .ok (.iload_n 1, 1) := by decide +kernel
theorem dX4_isWayReading_11 : decode cX4_isWayReading 11 = .ok (.iaload, 1) := by decide +kernel
theorem dX4_isWayReading_12 : decode cX4_isWayReading 12 = .ok (.invokestatic 113, 3) := by decide +kernel
theorem dX4_isWayReading_15 : decode cX4_isWayReading 15 = .ok (.ifCond .eq 42, 3) := by decide +kernel
theorem dX4_isWayReading_18 : decode cX4_isWayReading 18 = .ok (.aload_n 0, 1) := by decide +kernel
theorem dX4_isWayReading_19 : decode cX4_isWayReading 19 = .ok (.iload_n 3, 1) := by decide +kernel
theorem dX4_isWayReading_20 : decode cX4_isWayReading 20 = .ok (.aload_n 0, 1) := by decide +kernel
theorem dX4_isWayReading_21 : decode cX4_isWayReading 21 = .ok (.getfield 33, 3) := by decide +kernel
theorem dX4_isWayReading_24 : decode cX4_isWayReading 24 = .ok (.iload_n 1, 1) := by decide +kernel
theorem dX4_isWayReading_25 : decode cX4_isWayReading 25 = .ok (.iaload, 1) := by decide +kernel
theorem dX4_isWayReading_26 : decode cX4_isWayReading 26 = .ok (.invokestatic 117, 3) := by decide +kernel
theorem dX4_isWayReading_29 : decode cX4_isWayReading 29 = .ok (.aload_n 0, 1) := by decide +kernel
theorem dX4_isWayReading_30 : decode cX4_isWayReading 30 = .ok (.iload_n 1, 1) := by decide +kernel
theorem dX4_isWayReading_31 : decode cX4_isWayReading 31 = .ok (.iload_n 3, 1) := by decide +kernel
theorem dX4_isWayReading_32 : decode cX4_isWayReading 32 = .ok (.invokevirtual 127, 3) := by decide +kernel
theorem dX4_isWayReading_35 : decode cX4_isWayReading 35 = .ok (.iload_n 3, 1) := by decide +kernel
theorem dX4_isWayReading_36 : decode cX4_isWayReading 36 = .ok (.iconst 1, 1) := by decide +kernel
theorem dX4_isWayReading_37 : decode cX4_isWayReading 37 = .ok (.iadd, 1) := by decide +kernel
theorem dX4_isWayReading_38 : decode cX4_isWayReading 38 = .ok (.aload_n 0, 1) := by decide +kernel
theorem dX4_isWayReading_39 : decode cX4_isWayReading 39 = .ok (.getfield 42, 3) := by decide +kernel
theorem dX4_isWayReading_42 : decode cX4_isWayReading 42 = .ok (.iload_n 1, 1) := by decide +kernel
theorem dX4_isWayReading_43 : decode cX4_isWayReading 43 = .ok (.iaload, 1) := by decide +kernel
theorem dX4_isWayReading_44 : decode cX4_isWayReading 44 = .ok (.invokestatic 117, 3) := by decide +kernel
theorem dX4_isWayReading_47 : decode cX4_isWayReading 47 = .ok (.invokevirtual 169, 3) := by decide +kernel
theorem dX4_isWayReading_50 : decode cX4_isWayReading 50 = .ok (.ifCond .eq 7, 3) := by decide +kernel
theorem dX4_isWayReading_53 : decode cX4_isWayReading 53 = .ok (.iconst 1, 1) := by decide +kernel
theorem dX4_isWayReading_54 : decode cX4_isWayReading 54 = .ok (.goto 4, 3) := by decide +kernel
theorem dX4_isWayReading_57 : decode cX4_isWayReading 57 = .ok (.iconst 0, 1) := by decide +kernel
theorem dX4_isWayReading_58 : decode cX4_isWayReading 58 = .ok (.ireturn, 1) := by decide +kernel
theorem dX4_isWay_0 : decode cX4_isWay 0 = .ok (.iload_n 2, 1) := by decide +kernel
theorem dX4_isWay_1 : decode cX4_isWay 1 = .ok (.iconst (-1), 1) := by decide +kernel
theorem dX4_isWay_2 : decode cX4_isWay 2 = .ok (.if_icmp .eq 14, 3) := by decide +kernel
theorem dX4_isWay_5 : decode cX4_isWay 5 = .ok (.aload_n 0, 1) := by decide +kernel
theorem dX4_isWay_6 : decode cX4_isWay 6 = .ok (.getfield 45, 3) := by decide +kernel
theorem dX4_isWay_9 : decode cX4_isWay 9 = .ok (.iload_n 3, 1) := by decide +kernel
theorem dX4_isWay_10 : decode cX4_isWay 10 = .ok (.iaload, 1) := by decide +kernel
theorem dX4_isWay_11 : decode cX4_isWay 11 = .ok (.ldc 103, 2) := by decide +kernel
theorem dX4_isWay_13 : decode cX4_isWay 13 = .ok (.if_icmp .lt 5, 3) := by decide +kernel
theorem dX4_isWay_16 : decode cX4_isWay 16 = .ok (.iconst 0, 1) := by decide +kernel
theorem dX4_isWay_17 : decode cX4_isWay 17 = .ok (.ireturn, 1) := by decide +kernel
theorem dX4_isWay_18 : decode cX4_isWay 18 = .ok (.aload_n 0, 1) := by decide +kernel
theorem dX4_isWay_19 : decode cX4_isWay 19 = .ok (.getfield 29, 3) := by decide +kernel
theorem dX4_isWay_22 : decode cX4_isWay 22 = .ok (.ifCond .eq 20, 3) := by decide +kernel
theorem dX4_isWay_25 : decode cX4_isWay 25 = .ok (.aload_n 0, 1) := by decide +kernel
theorem dX4_isWay_26 : decode cX4_isWay 26 = .ok (.getfield 45, 3) := by decide +kernel
theorem dX4_isWay_29 : decode cX4_isWay 29 = .ok (.iload_n 1, 1) := by decide +kernel
theorem dX4_isWay_30 : decode cX4_isWay 30 = .ok (.iaload, 1) := by decide +kernel
theorem dX4_isWay_31 : decode cX4_isWay 31 = .ok (.aload_n 0, 1) := by decide +kernel
theorem dX4_isWay_32 : decode cX4_isWay 32 = .ok (.getfield 45, 3) := by decide +kernel
theorem dX4_isWay_35 : decode cX4_isWay 35 = .ok (.iload_n 3, 1) := by decide +kernel
theorem dX4_isWay_36 : decode cX4_isWay 36 = .ok (.iaload, 1) := by decide +kernel
theorem dX4_isWay_37 : decode cX4_isWay 37 = .ok (.iload_n 2, 1) := by decide +kernel
theorem dX4_isWay_38 : decode cX4_isWay 38 = .ok (.iadd, 1) := by decide +kernel
theorem dX4_isWay_39 : decode cX4_isWay 39 = .ok (.if_icmp .ne 7, 3) := by decide +kernel
theorem dX4_isWay_42 : decode cX4_isWay 42 = .ok (.iconst 1, 1) := by decide +kernel
theorem dX4_isWay_43 : decode cX4_isWay 43 = .ok (.goto 4, 3) := by decide +kernel
theorem dX4_isWay_46 : decode cX4_isWay 46 = .ok (.iconst 0, 1) := by decide +kernel
theorem dX4_isWay_47 : decode cX4_isWay 47 = .ok (.ireturn, 1) := by decide +kernel
set_option maxRecDepth 20000 in
theorem ggX5_init_X6_init : GoodIn wsX5_init wsX6_init := goodIn_g _ [(23, 2), (2, 2), (10, 1), (25, 8)] (by exact rfl) (by decide +kernel)
set_option maxRecDepth 20000 in
theorem gX5_init_X6_init_n11 : GoodIn wsX5_init (wsX6_init) := ggX5_init_X6_init
theorem dX5_init_0 : decode cX5_init 0 = .ok (.aload_n 0, 1) := by decide +kernel
theorem dX5_init_1 : decode cX5_init 1 = .ok (.invokespecial 3, 3) := by decide +kernel
theorem dX5_init_4 : decode cX5_init 4 = .ok (.aload_n 0, 1) := by decide +kernel
theorem dX5_init_5 : decode cX5_init 5 = .ok (.new 9, 3) := by decide +kernel
theorem dX5_init_8 : decode cX5_init 8 = .ok (.dup, 1) := by decide +kernel
theorem dX5_init_9 : decode cX5_init 9 = .ok (.invokespecial 11, 3) := by decide +kernel
theorem dX5_init_12 : decode cX5_init 12 = .ok (.putfield 12, 3) := by decide +kernel
theorem dX5_init_15 : decode cX5_init 15 = .ok (.aload_n 0, 1) := by decide +kernel
theorem dX5_init_16 : decode cX5_init 16 = .ok (.new 9, 3) := by decide +kernel
theorem dX5_init_19 : decode cX5_init 19 = .ok (.dup, 1) := by decide +kernel
theorem dX5_init_20 : decode cX5_init 20 = .ok (.invokespecial 11, 3) := by decide +kernel
theorem dX5_init_23 : decode cX5_init 23 = .ok (.putfield 18, 3) := by decide +kernel
theorem dX5_init_26 : decode cX5_init 26 = .ok (.aload_n 0, 1) := by decide +kernel
theorem dX5_init_27 : decode cX5_init 27 = .ok (.iconst 0, 1) := by decide +kernel
theorem dX5_init_28 : decode cX5_init 28 = .ok (.putfield 21, 3) := by decide +kernel
theorem dX5_init_31 : decode cX5_init 31 = .ok (.aload_n 0, 1) := by decide +kernel
theorem dX5_init_32 : decode cX5_init 32 = .ok (.sipush 200, 3) := by decide +kernel
theorem dX5_init_35 : decode cX5_init 35 = .ok (.newarray .int, 2) := by decide +kernel
theorem dX5_init_37 : decode cX5_init 37 = .ok (.putfield 25, 3) := by decide +kernel
theorem dX5_init_40 : decode cX5_init 40 = .ok (.aload_n 0, 1) := by decide +kernel
theorem dX5_init_41 : decode cX5_init 41 = .ok (.sipush 200, 3) := by decide +kernel
theorem dX5_init_44 : decode cX5_init 44 = .ok (.newarray .int, 2) := by decide +kernel
theorem dX5_init_46 : decode cX5_init 46 = .ok (.putfield 29, 3) := by decide +kernel
theorem dX5_init_49 : decode cX5_init 49 = .ok (.aload_n 0, 1) := by decide +kernel
theorem dX5_init_50 : decode cX5_init 50 = .ok (.sipush 1600, 3) := by decide +kernel
theorem dX5_init_53 : decode cX5_init 53 = .ok (.newarray .int, 2) := by decide +kernel
theorem dX5_init_55 : decode cX5_init 55 = .ok (.putfield 32, 3) := by decide +kernel
theorem dX5_init_58 : decode cX5_init 58 = .ok (.aload_n 0, 1) := by decide +kernel
theorem dX5_init_59 : decode cX5_init 59 = .ok (.sipush 200, 3) := by decide +kernel
theorem dX5_init_62 : decode cX5_init 62 = .ok (.newarray .int, 2) := by decide +kernel
theorem dX5_init_64 : decode cX5_init 64 = .ok (.putfield 35, 3) := by decide +kernel
theorem dX5_init_67 : decode cX5_init 67 = .ok (.aload_n 0, 1) := by decide +kernel
theorem dX5_init_68 : decode cX5_init 68 = .ok (.sipush 200, 3) := by decide +kernel
theorem dX5_init_71 : decode cX5_init 71 = .ok (.newarray .int, 2) := by decide +kernel
theorem dX5_init_73 : decode cX5_init 73 = .ok (.putfield 38, 3) := by decide +kernel
theorem dX5_init_76 : decode cX5_init 76 = .ok (.aload_n 0, 1) := by decide +kernel
theorem dX5_init_77 : decode cX5_init 77 = .ok (.iconst 0, 1) := by decide +kernel
theorem dX5_init_78 : decode cX5_init 78 = .ok (.putfield 41, 3) := by decide +kernel
theorem dX5_init_81 : decode cX5_init 81 = .ok (.aload_n 0, 1) := by decide +kernel
theorem dX5_init_82 : decode cX5_init 82 = .ok (.sipush 200, 3) := by decide +kernel
theorem dX5_init_85 : decode cX5_init 85 = .ok (.newarray .boolean, 2) := by decide +kernel
theorem dX5_init_87 : decode cX5_init 87 = .ok (.putfield 44, 3) := by decide +kernel
theorem dX5_init_90 : decode cX5_init 90 = .ok (.aload_n 0, 1) := by decide +kernel
theorem dX5_init_91 : decode cX5_init 91 = .ok (.sipush 200, 3) := by decide +kernel
theorem dX5_init_94 : decode cX5_init 94 = .ok (.newarray .int, 2) := by decide +kernel
theorem dX5_init_96 : decode cX5_init 96 = .ok (.putfield 48, 3) := by decide +kernel
theorem dX5_init_99 : decode cX5_init 99 = .ok (.aload_n 0, 1) := by decide +kernel
theorem dX5_init_100 : decode cX5_init 100 = .ok (.sipush 200, 3) := by decide +kernel
theorem dX5_init_103 : decode cX5_init 103 = .ok (.newarray .int, 2) := by decide +kernel
theorem dX5_init_105 : decode cX5_init 105 = .ok (.putfield 51, 3) := by decide +kernel
theorem dX5_init_108 : decode cX5_init 108 = .ok (.aload_n 0, 1) := by decide +kernel
theorem dX5_init_109 : decode cX5_init 109 = .ok (.bipush 32, 2) := by decide +kernel
theorem dX5_init_111 : decode cX5_init 111 = .ok (.newarray .int, 2) := by decide +kernel
theorem dX5_init_113 : decode cX5_init 113 = .ok (.putfield 54, 3) := by decide +kernel
theorem dX5_init_116 : decode cX5_init 116 = .ok (.return_, 1) := by decide +kernel
set_option maxRecDepth 20000 in
theorem ggX5_exploreOne_X6_take : GoodIn wsX5_exploreOne wsX6_take := goodIn_g _ [(8, 13), (7, 1), (21, 8), (79, 10)] (by exact rfl) (by decide +kernel)
set_option maxRecDepth 20000 in
theorem gX5_exploreOne_X6_take : GoodIn wsX5_exploreOne (wsV RX5 57 RX6 yX6_take wsX6_take) := goodIn_app (goodIn_of _ (by decide +kernel)) ggX5_exploreOne_X6_take
set_option maxRecDepth 20000 in
theorem ggX5_exploreOne_X6_takeNothing : GoodIn wsX5_exploreOne wsX6_takeNothing := goodIn_g _ [(32, 1), (10, 1), (12, 1), (82, 4)] (by exact rfl) (by decide +kernel)
set_option maxRecDepth 20000 in
theorem gX5_exploreOne_X6_takeNothing : GoodIn wsX5_exploreOne (wsV RX5 61 RX6 yX6_takeNothing wsX6_takeNothing) := goodIn_app (goodIn_of _ (by decide +kernel)) ggX5_exploreOne_X6_takeNothing
set_option maxRecDepth 20000 in
theorem ggX5_exploreOne_X5_explore : GoodIn wsX5_exploreOne wsX5_explore := goodIn_g _ [(37, 2), (1, 2), (39, 6), (7, 1), (45, 1), (10, 1), (17, 1), (46, 3), (36, 1), (49, 7), (13, 1), (56, 1), (23, 1), (57, 5), (3, 1), (62, 17), (82, 4)] (by exact rfl) (by decide +kernel)
set_option maxRecDepth 20000 in
theorem gX5_exploreOne_X5_explore : GoodIn wsX5_exploreOne (wsV RX5 64 RX5 yX5_explore wsX5_explore) := goodIn_app (goodIn_of _ (by decide +kernel)) ggX5_exploreOne_X5_explore
theorem dX5_exploreOne_0 : decode cX5_exploreOne 0 = .ok (.aload_n 0, 1) := by decide +kernel
theorem dX5_exploreOne_1 : decode cX5_exploreOne 1 = .ok (.getfield 12, 3) := by decide +kernel
theorem dX5_exploreOne_4 : decode cX5_exploreOne 4 = .ok (.aload_n 1, 1) := by decide +kernel
theorem dX5_exploreOne_5 : decode cX5_exploreOne 5 = .ok (.invokevirtual 57, 3) := by decide +kernel
theorem dX5_exploreOne_8 : decode cX5_exploreOne 8 = .ok (.aload_n 0, 1) := by decide +kernel
theorem dX5_exploreOne_9 : decode cX5_exploreOne 9 = .ok (.getfield 18, 3) := by decide +kernel
theorem dX5_exploreOne_12 : decode cX5_exploreOne 12 = .ok (.invokevirtual 61, 3) := by decide +kernel
theorem dX5_exploreOne_15 : decode cX5_exploreOne 15 = .ok (.aload_n 0, 1) := by decide +kernel
theorem dX5_exploreOne_16 : decode cX5_exploreOne 16 = .ok (.iconst 0, 1) := by decide +kernel
