set_option maxRecDepth 20000 in
theorem gX7_addMeetings_X7_fromOf : GoodIn wsX7_addMeetings (va_wsS RX7 125 yX7_fromOf wsX7_fromOf) := goodIn_app (goodIn_of _ (by decide +kernel)) ggX7_addMeetings_X7_fromOf
set_option maxRecDepth 20000 in
theorem ggX7_addMeetings_X7_toOf : GoodIn wsX7_addMeetings wsX7_toOf := goodIn_g _ [(20, 1)] (by exact rfl) (by decide +kernel)
set_option maxRecDepth 20000 in
theorem gX7_addMeetings_X7_toOf : GoodIn wsX7_addMeetings (va_wsS RX7 138 yX7_toOf wsX7_toOf) := goodIn_app (goodIn_of _ (by decide +kernel)) ggX7_addMeetings_X7_toOf
set_option maxRecDepth 20000 in
theorem ggX7_addMeetings_X1_addArc : GoodIn wsX7_addMeetings wsX1_addArc := goodIn_g _ [(25, 6), (10, 1), (31, 1), (46, 13)] (by exact rfl) (by decide +kernel)
set_option maxRecDepth 20000 in
theorem gX7_addMeetings_X1_addArc : GoodIn wsX7_addMeetings (wsV RX7 80 RX1 yX1_addArc wsX1_addArc) := goodIn_app (goodIn_of _ (by decide +kernel)) ggX7_addMeetings_X1_addArc
theorem dX7_addMeetings_0 : decode cX7_addMeetings 0 = .ok (.iconst 0, 1) := by decide +kernel
theorem dX7_addMeetings_1 : decode cX7_addMeetings 1 = .ok (.istore_n 3, 1) := by decide +kernel
theorem dX7_addMeetings_2 : decode cX7_addMeetings 2 = .ok (.iload_n 3, 1) := by decide +kernel
theorem dX7_addMeetings_3 : decode cX7_addMeetings 3 = .ok (.aload_n 1, 1) := by decide +kernel
theorem dX7_addMeetings_4 : decode cX7_addMeetings 4 = .ok (.getfield 115, 3) := by decide +kernel
theorem dX7_addMeetings_7 : decode cX7_addMeetings 7 = .ok (.getfield 119, 3) := by decide +kernel
theorem dX7_addMeetings_10 : decode cX7_addMeetings 10 = .ok (.if_icmp .ge 159, 3) := by decide +kernel
theorem dX7_addMeetings_13 : decode cX7_addMeetings 13 = .ok (.aload_n 1, 1) := by decide +kernel
theorem dX7_addMeetings_14 : decode cX7_addMeetings 14 = .ok (.getfield 115, 3) := by decide +kernel
theorem dX7_addMeetings_17 : decode cX7_addMeetings 17 = .ok (.getfield 122, 3) := by decide +kernel
theorem dX7_addMeetings_20 : decode cX7_addMeetings 20 = .ok (.iload_n 3, 1) := by decide +kernel
theorem dX7_addMeetings_21 : decode cX7_addMeetings 21 = .ok (.iaload, 1) := by decide +kernel
theorem dX7_addMeetings_22 : decode cX7_addMeetings 22 = .ok (.istore 4, 2) := by decide +kernel
theorem dX7_addMeetings_24 : decode cX7_addMeetings 24 = .ok (.iconst 0, 1) := by decide +kernel
theorem dX7_addMeetings_25 : decode cX7_addMeetings 25 = .ok (.istore 5, 2) := by decide +kernel
theorem dX7_addMeetings_27 : decode cX7_addMeetings 27 = .ok (.iload 5, 2) := by decide +kernel
theorem dX7_addMeetings_29 : decode cX7_addMeetings 29 = .ok (.aload_n 2, 1) := by decide +kernel
theorem dX7_addMeetings_30 : decode cX7_addMeetings 30 = .ok (.getfield 115, 3) := by decide +kernel
theorem dX7_addMeetings_33 : decode cX7_addMeetings 33 = .ok (.getfield 119, 3) := by decide +kernel
theorem dX7_addMeetings_36 : decode cX7_addMeetings 36 = .ok (.if_icmp .ge 127, 3) := by decide +kernel
theorem dX7_addMeetings_39 : decode cX7_addMeetings 39 = .ok (.aload_n 2, 1) := by decide +kernel
theorem dX7_addMeetings_40 : decode cX7_addMeetings 40 = .ok (.getfield 115, 3) := by decide +kernel
theorem dX7_addMeetings_43 : decode cX7_addMeetings 43 = .ok (.getfield 122, 3) := by decide +kernel
theorem dX7_addMeetings_46 : decode cX7_addMeetings 46 = .ok (.iload 5, 2) := by decide +kernel
theorem dX7_addMeetings_48 : decode cX7_addMeetings 48 = .ok (.iaload, 1) := by decide +kernel
theorem dX7_addMeetings_49 : decode cX7_addMeetings 49 = .ok (.istore 6, 2) := by decide +kernel
theorem dX7_addMeetings_51 : decode cX7_addMeetings 51 = .ok (.iload 4, 2) := by decide +kernel
theorem dX7_addMeetings_53 : decode cX7_addMeetings 53 = .ok (.invokestatic 129, 3) := by decide +kernel
theorem dX7_addMeetings_56 : decode cX7_addMeetings 56 = .ok (.bipush 8, 2) := by decide +kernel
theorem dX7_addMeetings_58 : decode cX7_addMeetings 58 = .ok (.if_icmp .eq 99, 3) := by decide +kernel
theorem dX7_addMeetings_61 : decode cX7_addMeetings 61 = .ok (.iload 4, 2) := by decide +kernel
theorem dX7_addMeetings_63 : decode cX7_addMeetings 63 = .ok (.invokestatic 129, 3) := by decide +kernel
theorem dX7_addMeetings_66 : decode cX7_addMeetings 66 = .ok (.iload 6, 2) := by decide +kernel
theorem dX7_addMeetings_68 : decode cX7_addMeetings 68 = .ok (.invokestatic 132, 3) := by decide +kernel
theorem dX7_addMeetings_71 : decode cX7_addMeetings 71 = .ok (.if_icmp .ne 86, 3) := by decide +kernel
theorem dX7_addMeetings_74 : decode cX7_addMeetings 74 = .ok (.aload_n 1, 1) := by decide +kernel
theorem dX7_addMeetings_75 : decode cX7_addMeetings 75 = .ok (.getfield 115, 3) := by decide +kernel
theorem dX7_addMeetings_78 : decode cX7_addMeetings 78 = .ok (.getfield 135, 3) := by decide +kernel
theorem dX7_addMeetings_81 : decode cX7_addMeetings 81 = .ok (.iload_n 3, 1) := by decide +kernel
theorem dX7_addMeetings_82 : decode cX7_addMeetings 82 = .ok (.iaload, 1) := by decide +kernel
theorem dX7_addMeetings_83 : decode cX7_addMeetings 83 = .ok (.aload_n 2, 1) := by decide +kernel
theorem dX7_addMeetings_84 : decode cX7_addMeetings 84 = .ok (.getfield 115, 3) := by decide +kernel
theorem dX7_addMeetings_87 : decode cX7_addMeetings 87 = .ok (.getfield 135, 3) := by decide +kernel
theorem dX7_addMeetings_90 : decode cX7_addMeetings 90 = .ok (.iload 5, 2) := by decide +kernel
theorem dX7_addMeetings_92 : decode cX7_addMeetings 92 = .ok (.iaload, 1) := by decide +kernel
theorem dX7_addMeetings_93 : decode cX7_addMeetings 93 = .ok (.iadd, 1) := by decide +kernel
theorem dX7_addMeetings_94 : decode cX7_addMeetings 94 = .ok (.istore 7, 2) := by decide +kernel
theorem dX7_addMeetings_96 : decode cX7_addMeetings 96 = .ok (.iload 7, 2) := by decide +kernel
theorem dX7_addMeetings_98 : decode cX7_addMeetings 98 = .ok (.ldc_w 285, 3) := by decide +kernel
theorem dX7_addMeetings_101 : decode cX7_addMeetings 101 = .ok (.if_icmp .le 5, 3) := by decide +kernel
theorem dX7_addMeetings_104 : decode cX7_addMeetings 104 = .ok (.iconst 0, 1) := by decide +kernel
theorem dX7_addMeetings_105 : decode cX7_addMeetings 105 = .ok (.ireturn, 1) := by decide +kernel
theorem dX7_addMeetings_106 : decode cX7_addMeetings 106 = .ok (.aload_n 0, 1) := by decide +kernel
theorem dX7_addMeetings_107 : decode cX7_addMeetings 107 = .ok (.getfield 30, 3) := by decide +kernel
theorem dX7_addMeetings_110 : decode cX7_addMeetings 110 = .ok (.iload 4, 2) := by decide +kernel
theorem dX7_addMeetings_112 : decode cX7_addMeetings 112 = .ok (.invokestatic 125, 3) := by decide +kernel
theorem dX7_addMeetings_115 : decode cX7_addMeetings 115 = .ok (.aload_n 2, 1) := by decide +kernel
theorem dX7_addMeetings_116 : decode cX7_addMeetings 116 = .ok (.getfield 95, 3) := by decide +kernel
theorem dX7_addMeetings_119 : decode cX7_addMeetings 119 = .ok (.imul, 1) := by decide +kernel
theorem dX7_addMeetings_120 : decode cX7_addMeetings 120 = .ok (.iload 6, 2) := by decide +kernel
theorem dX7_addMeetings_122 : decode cX7_addMeetings 122 = .ok (.invokestatic 125, 3) := by decide +kernel
theorem dX7_addMeetings_125 : decode cX7_addMeetings 125 = .ok (.iadd, 1) := by decide +kernel
theorem dX7_addMeetings_126 : decode cX7_addMeetings 126 = .ok (.iload 4, 2) := by decide +kernel
theorem dX7_addMeetings_128 : decode cX7_addMeetings 128 = .ok (.invokestatic 132, 3) := by decide +kernel
theorem dX7_addMeetings_131 : decode cX7_addMeetings 131 = .ok (.iload 6, 2) := by decide +kernel
theorem dX7_addMeetings_133 : decode cX7_addMeetings 133 = .ok (.invokestatic 129, 3) := by decide +kernel
theorem dX7_addMeetings_136 : decode cX7_addMeetings 136 = .ok (.iload 7, 2) := by decide +kernel
theorem dX7_addMeetings_138 : decode cX7_addMeetings 138 = .ok (.iload 4, 2) := by decide +kernel
theorem dX7_addMeetings_140 : decode cX7_addMeetings 140 = .ok (.invokestatic 138, 3) := by decide +kernel
theorem dX7_addMeetings_143 : decode cX7_addMeetings 143 = .ok (.aload_n 2, 1) := by decide +kernel
theorem dX7_addMeetings_144 : decode cX7_addMeetings 144 = .ok (.getfield 95, 3) := by decide +kernel
theorem dX7_addMeetings_147 : decode cX7_addMeetings 147 = .ok (.imul, 1) := by decide +kernel
theorem dX7_addMeetings_148 : decode cX7_addMeetings 148 = .ok (.iload 6, 2) := by decide +kernel
theorem dX7_addMeetings_150 : decode cX7_addMeetings 150 = .ok (.invokestatic 138, 3) := by decide +kernel
theorem dX7_addMeetings_153 : decode cX7_addMeetings 153 = .ok (.iadd, 1) := by decide +kernel
theorem dX7_addMeetings_154 : decode cX7_addMeetings 154 = .ok (.invokevirtual 80, 3) := by decide +kernel
theorem dX7_addMeetings_157 : decode cX7_addMeetings 157 = .ok (.iinc 5 1, 3) := by decide +kernel
theorem dX7_addMeetings_160 : decode cX7_addMeetings 160 = .ok (.goto (-133), 3) := by decide +kernel
theorem dX7_addMeetings_163 : decode cX7_addMeetings 163 = .ok (.iinc 3 1, 3) := by decide +kernel
theorem dX7_addMeetings_166 : decode cX7_addMeetings 166 = .ok (.goto (-164), 3) := by decide +kernel
theorem dX7_addMeetings_169 : decode cX7_addMeetings 169 = .ok (.iconst 1, 1) := by decide +kernel
theorem dX7_addMeetings_170 : decode cX7_addMeetings 170 = .ok (.ireturn, 1) := by decide +kernel
set_option maxRecDepth 20000 in
theorem ggX7_addMovesOfOne_X7_lowerOf : GoodIn wsX7_addMovesOfOne wsX7_lowerOf := goodIn_g _ [(9, 1)] (by exact rfl) (by decide +kernel)
set_option maxRecDepth 20000 in
theorem gX7_addMovesOfOne_X7_lowerOf : GoodIn wsX7_addMovesOfOne (va_wsS RX7 129 yX7_lowerOf wsX7_lowerOf) := goodIn_app (goodIn_of _ (by decide +kernel)) ggX7_addMovesOfOne_X7_lowerOf
set_option maxRecDepth 20000 in
theorem ggX7_addMovesOfOne_X7_fromOf : GoodIn wsX7_addMovesOfOne wsX7_fromOf := goodIn_g _ [(12, 1)] (by exact rfl) (by decide +kernel)
set_option maxRecDepth 20000 in
theorem gX7_addMovesOfOne_X7_fromOf : GoodIn wsX7_addMovesOfOne (va_wsS RX7 125 yX7_fromOf wsX7_fromOf) := goodIn_app (goodIn_of _ (by decide +kernel)) ggX7_addMovesOfOne_X7_fromOf
set_option maxRecDepth 20000 in
theorem ggX7_addMovesOfOne_X7_upperOf : GoodIn wsX7_addMovesOfOne wsX7_upperOf := goodIn_g _ [(15, 1)] (by exact rfl) (by decide +kernel)
set_option maxRecDepth 20000 in
theorem gX7_addMovesOfOne_X7_upperOf : GoodIn wsX7_addMovesOfOne (va_wsS RX7 132 yX7_upperOf wsX7_upperOf) := goodIn_app (goodIn_of _ (by decide +kernel)) ggX7_addMovesOfOne_X7_upperOf
set_option maxRecDepth 20000 in
theorem ggX7_addMovesOfOne_X7_toOf : GoodIn wsX7_addMovesOfOne wsX7_toOf := goodIn_g _ [(18, 1)] (by exact rfl) (by decide +kernel)
set_option maxRecDepth 20000 in
theorem gX7_addMovesOfOne_X7_toOf : GoodIn wsX7_addMovesOfOne (va_wsS RX7 138 yX7_toOf wsX7_toOf) := goodIn_app (goodIn_of _ (by decide +kernel)) ggX7_addMovesOfOne_X7_toOf
set_option maxRecDepth 20000 in
theorem ggX7_addMovesOfOne_X1_addArc : GoodIn wsX7_addMovesOfOne wsX1_addArc := goodIn_g _ [(23, 6), (8, 1), (29, 1), (44, 13)] (by exact rfl) (by decide +kernel)
set_option maxRecDepth 20000 in
theorem gX7_addMovesOfOne_X1_addArc : GoodIn wsX7_addMovesOfOne (wsV RX7 80 RX1 yX1_addArc wsX1_addArc) := goodIn_app (goodIn_of _ (by decide +kernel)) ggX7_addMovesOfOne_X1_addArc
theorem dX7_addMovesOfOne_0 : decode cX7_addMovesOfOne 0 = .ok (.iconst 0, 1) := by decide +kernel
theorem dX7_addMovesOfOne_1 : decode cX7_addMovesOfOne 1 = .ok (.istore_n 3, 1) := by decide +kernel
theorem dX7_addMovesOfOne_2 : decode cX7_addMovesOfOne 2 = .ok (.iload_n 3, 1) := by decide +kernel
theorem dX7_addMovesOfOne_3 : decode cX7_addMovesOfOne 3 = .ok (.aload_n 1, 1) := by decide +kernel
theorem dX7_addMovesOfOne_4 : decode cX7_addMovesOfOne 4 = .ok (.getfield 115, 3) := by decide +kernel
theorem dX7_addMovesOfOne_7 : decode cX7_addMovesOfOne 7 = .ok (.getfield 119, 3) := by decide +kernel
theorem dX7_addMovesOfOne_10 : decode cX7_addMovesOfOne 10 = .ok (.if_icmp .ge 88, 3) := by decide +kernel
theorem dX7_addMovesOfOne_13 : decode cX7_addMovesOfOne 13 = .ok (.aload_n 1, 1) := by decide +kernel
theorem dX7_addMovesOfOne_14 : decode cX7_addMovesOfOne 14 = .ok (.getfield 115, 3) := by decide +kernel
theorem dX7_addMovesOfOne_17 : decode cX7_addMovesOfOne 17 = .ok (.getfield 122, 3) := by decide +kernel
theorem dX7_addMovesOfOne_20 : decode cX7_addMovesOfOne 20 = .ok (.iload_n 3, 1) := by decide +kernel
theorem dX7_addMovesOfOne_21 : decode cX7_addMovesOfOne 21 = .ok (.iaload, 1) := by decide +kernel
theorem dX7_addMovesOfOne_22 : decode cX7_addMovesOfOne 22 = .ok (.istore 4, 2) := by decide +kernel
theorem dX7_addMovesOfOne_24 : decode cX7_addMovesOfOne 24 = .ok (.iload 4, 2) := by decide +kernel
theorem dX7_addMovesOfOne_26 : decode cX7_addMovesOfOne 26 = .ok (.invokestatic 129, 3) := by decide +kernel
theorem dX7_addMovesOfOne_29 : decode cX7_addMovesOfOne 29 = .ok (.bipush 8, 2) := by decide +kernel
theorem dX7_addMovesOfOne_31 : decode cX7_addMovesOfOne 31 = .ok (.if_icmp .ne 61, 3) := by decide +kernel
theorem dX7_addMovesOfOne_34 : decode cX7_addMovesOfOne 34 = .ok (.iconst 0, 1) := by decide +kernel
theorem dX7_addMovesOfOne_35 : decode cX7_addMovesOfOne 35 = .ok (.istore 5, 2) := by decide +kernel
theorem dX7_addMovesOfOne_37 : decode cX7_addMovesOfOne 37 = .ok (.iload 5, 2) := by decide +kernel
theorem dX7_addMovesOfOne_39 : decode cX7_addMovesOfOne 39 = .ok (.iload_n 2, 1) := by decide +kernel
theorem dX7_addMovesOfOne_40 : decode cX7_addMovesOfOne 40 = .ok (.if_icmp .ge 52, 3) := by decide +kernel
theorem dX7_addMovesOfOne_43 : decode cX7_addMovesOfOne 43 = .ok (.aload_n 0, 1) := by decide +kernel
theorem dX7_addMovesOfOne_44 : decode cX7_addMovesOfOne 44 = .ok (.getfield 30, 3) := by decide +kernel
theorem dX7_addMovesOfOne_47 : decode cX7_addMovesOfOne 47 = .ok (.iload 4, 2) := by decide +kernel
theorem dX7_addMovesOfOne_49 : decode cX7_addMovesOfOne 49 = .ok (.invokestatic 125, 3) := by decide +kernel
theorem dX7_addMovesOfOne_52 : decode cX7_addMovesOfOne 52 = .ok (.iload_n 2, 1) := by decide +kernel
theorem dX7_addMovesOfOne_53 : decode cX7_addMovesOfOne 53 = .ok (.imul, 1) := by decide +kernel
theorem dX7_addMovesOfOne_54 : decode cX7_addMovesOfOne 54 = .ok (.iload 5, 2) := by decide +kernel
theorem dX7_addMovesOfOne_56 : decode cX7_addMovesOfOne 56 = .ok (.iadd, 1) := by decide +kernel
theorem dX7_addMovesOfOne_57 : decode cX7_addMovesOfOne 57 = .ok (.iload 4, 2) := by decide +kernel
theorem dX7_addMovesOfOne_59 : decode cX7_addMovesOfOne 59 = .ok (.invokestatic 132, 3) := by decide +kernel
theorem dX7_addMovesOfOne_62 : decode cX7_addMovesOfOne 62 = .ok (.bipush 8, 2) := by decide +kernel
theorem dX7_addMovesOfOne_64 : decode cX7_addMovesOfOne 64 = .ok (.aload_n 1, 1) := by decide +kernel
theorem dX7_addMovesOfOne_65 : decode cX7_addMovesOfOne 65 = .ok (.getfield 115, 3) := by decide +kernel
theorem dX7_addMovesOfOne_68 : decode cX7_addMovesOfOne 68 = .ok (.getfield 135, 3) := by decide +kernel
theorem dX7_addMovesOfOne_71 : decode cX7_addMovesOfOne 71 = .ok (.iload_n 3, 1) := by decide +kernel
theorem dX7_addMovesOfOne_72 : decode cX7_addMovesOfOne 72 = .ok (.iaload, 1) := by decide +kernel
theorem dX7_addMovesOfOne_73 : decode cX7_addMovesOfOne 73 = .ok (.iload 4, 2) := by decide +kernel
theorem dX7_addMovesOfOne_75 : decode cX7_addMovesOfOne 75 = .ok (.invokestatic 138, 3) := by decide +kernel
theorem dX7_addMovesOfOne_78 : decode cX7_addMovesOfOne 78 = .ok (.iload_n 2, 1) := by decide +kernel
theorem dX7_addMovesOfOne_79 : decode cX7_addMovesOfOne 79 = .ok (.imul, 1) := by decide +kernel
theorem dX7_addMovesOfOne_80 : decode cX7_addMovesOfOne 80 = .ok (.iload 5, 2) := by decide +kernel
theorem dX7_addMovesOfOne_82 : decode cX7_addMovesOfOne 82 = .ok (.iadd, 1) := by decide +kernel
theorem dX7_addMovesOfOne_83 : decode cX7_addMovesOfOne 83 = .ok (.invokevirtual 80, 3) := by decide +kernel
theorem dX7_addMovesOfOne_86 : decode cX7_addMovesOfOne 86 = .ok (.iinc 5 1, 3) := by decide +kernel
theorem dX7_addMovesOfOne_89 : decode cX7_addMovesOfOne 89 = .ok (.goto (-52), 3) := by decide +kernel
theorem dX7_addMovesOfOne_92 : decode cX7_addMovesOfOne 92 = .ok (.iinc 3 1, 3) := by decide +kernel
theorem dX7_addMovesOfOne_95 : decode cX7_addMovesOfOne 95 = .ok (.goto (-93), 3) := by decide +kernel
theorem dX7_addMovesOfOne_98 : decode cX7_addMovesOfOne 98 = .ok (.return_, 1) := by decide +kernel
set_option maxRecDepth 20000 in
theorem ggX7_addMovesOfOther_X7_upperOf : GoodIn wsX7_addMovesOfOther wsX7_upperOf := goodIn_g _ [(10, 1)] (by exact rfl) (by decide +kernel)
set_option maxRecDepth 20000 in
theorem gX7_addMovesOfOther_X7_upperOf : GoodIn wsX7_addMovesOfOther (va_wsS RX7 132 yX7_upperOf wsX7_upperOf) := goodIn_app (goodIn_of _ (by decide +kernel)) ggX7_addMovesOfOther_X7_upperOf
set_option maxRecDepth 20000 in
theorem ggX7_addMovesOfOther_X7_fromOf : GoodIn wsX7_addMovesOfOther wsX7_fromOf := goodIn_g _ [(13, 1)] (by exact rfl) (by decide +kernel)
set_option maxRecDepth 20000 in
theorem gX7_addMovesOfOther_X7_fromOf : GoodIn wsX7_addMovesOfOther (va_wsS RX7 125 yX7_fromOf wsX7_fromOf) := goodIn_app (goodIn_of _ (by decide +kernel)) ggX7_addMovesOfOther_X7_fromOf
set_option maxRecDepth 20000 in
theorem ggX7_addMovesOfOther_X7_lowerOf : GoodIn wsX7_addMovesOfOther wsX7_lowerOf := goodIn_g _ [(16, 1)] (by exact rfl) (by decide +kernel)
set_option maxRecDepth 20000 in
theorem gX7_addMovesOfOther_X7_lowerOf : GoodIn wsX7_addMovesOfOther (va_wsS RX7 129 yX7_lowerOf wsX7_lowerOf) := goodIn_app (goodIn_of _ (by decide +kernel)) ggX7_addMovesOfOther_X7_lowerOf
set_option maxRecDepth 20000 in
theorem ggX7_addMovesOfOther_X7_toOf : GoodIn wsX7_addMovesOfOther wsX7_toOf := goodIn_g _ [(19, 1)] (by exact rfl) (by decide +kernel)
set_option maxRecDepth 20000 in
theorem gX7_addMovesOfOther_X7_toOf : GoodIn wsX7_addMovesOfOther (va_wsS RX7 138 yX7_toOf wsX7_toOf) := goodIn_app (goodIn_of _ (by decide +kernel)) ggX7_addMovesOfOther_X7_toOf
set_option maxRecDepth 20000 in
theorem ggX7_addMovesOfOther_X1_addArc : GoodIn wsX7_addMovesOfOther wsX1_addArc := goodIn_g _ [(24, 6), (9, 1), (30, 1), (45, 13)] (by exact rfl) (by decide +kernel)
set_option maxRecDepth 20000 in
theorem gX7_addMovesOfOther_X1_addArc : GoodIn wsX7_addMovesOfOther (wsV RX7 80 RX1 yX1_addArc wsX1_addArc) := goodIn_app (goodIn_of _ (by decide +kernel)) ggX7_addMovesOfOther_X1_addArc
theorem dX7_addMovesOfOther_0 : decode cX7_addMovesOfOther 0 = .ok (.iconst 0, 1) := by decide +kernel
theorem dX7_addMovesOfOther_1 : decode cX7_addMovesOfOther 1 = .ok (.istore_n 3, 1) := by decide +kernel
theorem dX7_addMovesOfOther_2 : decode cX7_addMovesOfOther 2 = .ok (.iload_n 3, 1) := by decide +kernel
theorem dX7_addMovesOfOther_3 : decode cX7_addMovesOfOther 3 = .ok (.aload_n 1, 1) := by decide +kernel
theorem dX7_addMovesOfOther_4 : decode cX7_addMovesOfOther 4 = .ok (.getfield 115, 3) := by decide +kernel
theorem dX7_addMovesOfOther_7 : decode cX7_addMovesOfOther 7 = .ok (.getfield 119, 3) := by decide +kernel
theorem dX7_addMovesOfOther_10 : decode cX7_addMovesOfOther 10 = .ok (.if_icmp .ge 93, 3) := by decide +kernel
theorem dX7_addMovesOfOther_13 : decode cX7_addMovesOfOther 13 = .ok (.aload_n 1, 1) := by decide +kernel
theorem dX7_addMovesOfOther_14 : decode cX7_addMovesOfOther 14 = .ok (.getfield 115, 3) := by decide +kernel
theorem dX7_addMovesOfOther_17 : decode cX7_addMovesOfOther 17 = .ok (.getfield 122, 3) := by decide +kernel
theorem dX7_addMovesOfOther_20 : decode cX7_addMovesOfOther 20 = .ok (.iload_n 3, 1) := by decide +kernel
theorem dX7_addMovesOfOther_21 : decode cX7_addMovesOfOther 21 = .ok (.iaload, 1) := by decide +kernel
theorem dX7_addMovesOfOther_22 : decode cX7_addMovesOfOther 22 = .ok (.istore 4, 2) := by decide +kernel
theorem dX7_addMovesOfOther_24 : decode cX7_addMovesOfOther 24 = .ok (.iload 4, 2) := by decide +kernel
theorem dX7_addMovesOfOther_26 : decode cX7_addMovesOfOther 26 = .ok (.invokestatic 132, 3) := by decide +kernel
theorem dX7_addMovesOfOther_29 : decode cX7_addMovesOfOther 29 = .ok (.bipush 8, 2) := by decide +kernel
theorem dX7_addMovesOfOther_31 : decode cX7_addMovesOfOther 31 = .ok (.if_icmp .ne 66, 3) := by decide +kernel
theorem dX7_addMovesOfOther_34 : decode cX7_addMovesOfOther 34 = .ok (.iconst 0, 1) := by decide +kernel
theorem dX7_addMovesOfOther_35 : decode cX7_addMovesOfOther 35 = .ok (.istore 5, 2) := by decide +kernel
theorem dX7_addMovesOfOther_37 : decode cX7_addMovesOfOther 37 = .ok (.iload 5, 2) := by decide +kernel
theorem dX7_addMovesOfOther_39 : decode cX7_addMovesOfOther 39 = .ok (.iload_n 2, 1) := by decide +kernel
theorem dX7_addMovesOfOther_40 : decode cX7_addMovesOfOther 40 = .ok (.if_icmp .ge 57, 3) := by decide +kernel
theorem dX7_addMovesOfOther_43 : decode cX7_addMovesOfOther 43 = .ok (.iload 5, 2) := by decide +kernel
theorem dX7_addMovesOfOther_45 : decode cX7_addMovesOfOther 45 = .ok (.aload_n 1, 1) := by decide +kernel
theorem dX7_addMovesOfOther_46 : decode cX7_addMovesOfOther 46 = .ok (.getfield 95, 3) := by decide +kernel
theorem dX7_addMovesOfOther_49 : decode cX7_addMovesOfOther 49 = .ok (.imul, 1) := by decide +kernel
theorem dX7_addMovesOfOther_50 : decode cX7_addMovesOfOther 50 = .ok (.istore 6, 2) := by decide +kernel
theorem dX7_addMovesOfOther_52 : decode cX7_addMovesOfOther 52 = .ok (.aload_n 0, 1) := by decide +kernel
theorem dX7_addMovesOfOther_53 : decode cX7_addMovesOfOther 53 = .ok (.getfield 30, 3) := by decide +kernel
theorem dX7_addMovesOfOther_56 : decode cX7_addMovesOfOther 56 = .ok (.iload 6, 2) := by decide +kernel
theorem dX7_addMovesOfOther_58 : decode cX7_addMovesOfOther 58 = .ok (.iload 4, 2) := by decide +kernel
theorem dX7_addMovesOfOther_60 : decode cX7_addMovesOfOther 60 = .ok (.invokestatic 125, 3) := by decide +kernel
theorem dX7_addMovesOfOther_63 : decode cX7_addMovesOfOther 63 = .ok (.iadd, 1) := by decide +kernel
theorem dX7_addMovesOfOther_64 : decode cX7_addMovesOfOther 64 = .ok (.bipush 8, 2) := by decide +kernel
theorem dX7_addMovesOfOther_66 : decode cX7_addMovesOfOther 66 = .ok (.iload 4, 2) := by decide +kernel
theorem dX7_addMovesOfOther_68 : decode cX7_addMovesOfOther 68 = .ok (.invokestatic 129, 3) := by decide +kernel
theorem dX7_addMovesOfOther_71 : decode cX7_addMovesOfOther 71 = .ok (.aload_n 1, 1) := by decide +kernel
theorem dX7_addMovesOfOther_72 : decode cX7_addMovesOfOther 72 = .ok (.getfield 115, 3) := by decide +kernel
theorem dX7_addMovesOfOther_75 : decode cX7_addMovesOfOther 75 = .ok (.getfield 135, 3) := by decide +kernel
theorem dX7_addMovesOfOther_78 : decode cX7_addMovesOfOther 78 = .ok (.iload_n 3, 1) := by decide +kernel
theorem dX7_addMovesOfOther_79 : decode cX7_addMovesOfOther 79 = .ok (.iaload, 1) := by decide +kernel
theorem dX7_addMovesOfOther_80 : decode cX7_addMovesOfOther 80 = .ok (.iload 6, 2) := by decide +kernel
theorem dX7_addMovesOfOther_82 : decode cX7_addMovesOfOther 82 = .ok (.iload 4, 2) := by decide +kernel
theorem dX7_addMovesOfOther_84 : decode cX7_addMovesOfOther 84 = .ok (.invokestatic 138, 3) := by decide +kernel
theorem dX7_addMovesOfOther_87 : decode cX7_addMovesOfOther 87 = .ok (.iadd, 1) := by decide +kernel
theorem dX7_addMovesOfOther_88 : decode cX7_addMovesOfOther 88 = .ok (.invokevirtual 80, 3) := by decide +kernel
theorem dX7_addMovesOfOther_91 : decode cX7_addMovesOfOther 91 = .ok (.iinc 5 1, 3) := by decide +kernel
theorem dX7_addMovesOfOther_94 : decode cX7_addMovesOfOther 94 = .ok (.goto (-57), 3) := by decide +kernel
theorem dX7_addMovesOfOther_97 : decode cX7_addMovesOfOther 97 = .ok (.iinc 3 1, 3) := by decide +kernel
theorem dX7_addMovesOfOther_100 : decode cX7_addMovesOfOther 100 = .ok (.goto (-98), 3) := by decide +kernel
theorem dX7_addMovesOfOther_103 : decode cX7_addMovesOfOther 103 = .ok (.return_, 1) := by decide +kernel
set_option maxRecDepth 20000 in
theorem ggX7_addEndsOfBoth_X7_holds : GoodIn wsX7_addEndsOfBoth wsX7_holds := goodIn_g _ [(7, 1)] (by exact rfl) (by decide +kernel)
set_option maxRecDepth 20000 in
theorem gX7_addEndsOfBoth_X7_holds : GoodIn wsX7_addEndsOfBoth (va_wsS RX7 209 yX7_holds wsX7_holds) := goodIn_app (goodIn_of _ (by decide +kernel)) ggX7_addEndsOfBoth_X7_holds
set_option maxRecDepth 20000 in
theorem ggX7_addEndsOfBoth_X1_addEndsOf : GoodIn wsX7_addEndsOfBoth wsX1_addEndsOf := goodIn_g _ [(12, 3), (5, 3), (15, 3), (11, 1), (18, 6), (32, 13)] (by exact rfl) (by decide +kernel)
set_option maxRecDepth 20000 in
theorem gX7_addEndsOfBoth_X1_addEndsOf : GoodIn wsX7_addEndsOfBoth (wsV RX7 106 RX1 yX1_addEndsOf wsX1_addEndsOf) := goodIn_app (goodIn_of _ (by decide +kernel)) ggX7_addEndsOfBoth_X1_addEndsOf
theorem dX7_addEndsOfBoth_0 : decode cX7_addEndsOfBoth 0 = .ok (.iconst 0, 1) := by decide +kernel
theorem dX7_addEndsOfBoth_1 : decode cX7_addEndsOfBoth 1 = .ok (.istore_n 3, 1) := by decide +kernel
theorem dX7_addEndsOfBoth_2 : decode cX7_addEndsOfBoth 2 = .ok (.iload_n 3, 1) := by decide +kernel
theorem dX7_addEndsOfBoth_3 : decode cX7_addEndsOfBoth 3 = .ok (.aload_n 1, 1) := by decide +kernel
theorem dX7_addEndsOfBoth_4 : decode cX7_addEndsOfBoth 4 = .ok (.getfield 95, 3) := by decide +kernel
theorem dX7_addEndsOfBoth_7 : decode cX7_addEndsOfBoth 7 = .ok (.if_icmp .ge 34, 3) := by decide +kernel
theorem dX7_addEndsOfBoth_10 : decode cX7_addEndsOfBoth 10 = .ok (.aload_n 1, 1) := by decide +kernel
theorem dX7_addEndsOfBoth_11 : decode cX7_addEndsOfBoth 11 = .ok (.getfield 206, 3) := by decide +kernel
theorem dX7_addEndsOfBoth_14 : decode cX7_addEndsOfBoth 14 = .ok (.iload_n 3, 1) := by decide +kernel
theorem dX7_addEndsOfBoth_15 : decode cX7_addEndsOfBoth 15 = .ok (.invokestatic 209, 3) := by decide +kernel
theorem dX7_addEndsOfBoth_18 : decode cX7_addEndsOfBoth 18 = .ok (.ifCond .eq 17, 3) := by decide +kernel
theorem dX7_addEndsOfBoth_21 : decode cX7_addEndsOfBoth 21 = .ok (.aload_n 0, 1) := by decide +kernel
theorem dX7_addEndsOfBoth_22 : decode cX7_addEndsOfBoth 22 = .ok (.getfield 30, 3) := by decide +kernel
theorem dX7_addEndsOfBoth_25 : decode cX7_addEndsOfBoth 25 = .ok (.aload_n 2, 1) := by decide +kernel
theorem dX7_addEndsOfBoth_26 : decode cX7_addEndsOfBoth 26 = .ok (.iload_n 3, 1) := by decide +kernel
theorem dX7_addEndsOfBoth_27 : decode cX7_addEndsOfBoth 27 = .ok (.aload_n 2, 1) := by decide +kernel
theorem dX7_addEndsOfBoth_28 : decode cX7_addEndsOfBoth 28 = .ok (.getfield 95, 3) := by decide +kernel
theorem dX7_addEndsOfBoth_31 : decode cX7_addEndsOfBoth 31 = .ok (.imul, 1) := by decide +kernel
theorem dX7_addEndsOfBoth_32 : decode cX7_addEndsOfBoth 32 = .ok (.invokevirtual 106, 3) := by decide +kernel
theorem dX7_addEndsOfBoth_35 : decode cX7_addEndsOfBoth 35 = .ok (.iinc 3 1, 3) := by decide +kernel
theorem dX7_addEndsOfBoth_38 : decode cX7_addEndsOfBoth 38 = .ok (.goto (-36), 3) := by decide +kernel
theorem dX7_addEndsOfBoth_41 : decode cX7_addEndsOfBoth 41 = .ok (.return_, 1) := by decide +kernel
theorem dX7_ruleState_0 : decode cX7_ruleState 0 = .ok (.iload_n 0, 1) := by decide +kernel
theorem dX7_ruleState_1 : decode cX7_ruleState 1 = .ok (.ifCond .eq 7, 3) := by decide +kernel
theorem dX7_ruleState_4 : decode cX7_ruleState 4 = .ok (.iconst 3, 1) := by decide +kernel
theorem dX7_ruleState_5 : decode cX7_ruleState 5 = .ok (.goto 4, 3) := by decide +kernel
theorem dX7_ruleState_8 : decode cX7_ruleState 8 = .ok (.iconst 0, 1) := by decide +kernel
theorem dX7_ruleState_9 : decode cX7_ruleState 9 = .ok (.iload_n 1, 1) := by decide +kernel
theorem dX7_ruleState_10 : decode cX7_ruleState 10 = .ok (.iadd, 1) := by decide +kernel
theorem dX7_ruleState_11 : decode cX7_ruleState 11 = .ok (.ireturn, 1) := by decide +kernel
theorem dX7_isAsKnown_0 : decode cX7_isAsKnown 0 = .ok (.iload_n 1, 1) := by decide +kernel
theorem dX7_isAsKnown_1 : decode cX7_isAsKnown 1 = .ok (.iconst 1, 1) := by decide +kernel
theorem dX7_isAsKnown_2 : decode cX7_isAsKnown 2 = .ok (.if_icmp .ne 14, 3) := by decide +kernel
theorem dX7_isAsKnown_5 : decode cX7_isAsKnown 5 = .ok (.iload_n 0, 1) := by decide +kernel
theorem dX7_isAsKnown_6 : decode cX7_isAsKnown 6 = .ok (.iload_n 2, 1) := by decide +kernel
theorem dX7_isAsKnown_7 : decode cX7_isAsKnown 7 = .ok (.if_icmp .ne 7, 3) := by decide +kernel
theorem dX7_isAsKnown_10 : decode cX7_isAsKnown 10 = .ok (.iconst 1, 1) := by decide +kernel
theorem dX7_isAsKnown_11 : decode cX7_isAsKnown 11 = .ok (.goto 4, 3) := by decide +kernel
theorem dX7_isAsKnown_14 : decode cX7_isAsKnown 14 = .ok (.iconst 0, 1) := by decide +kernel
theorem dX7_isAsKnown_15 : decode cX7_isAsKnown 15 = .ok (.ireturn, 1) := by decide +kernel
theorem dX7_isAsKnown_16 : decode cX7_isAsKnown 16 = .ok (.iload_n 1, 1) := by decide +kernel
theorem dX7_isAsKnown_17 : decode cX7_isAsKnown 17 = .ok (.ifCond .eq 8, 3) := by decide +kernel
theorem dX7_isAsKnown_20 : decode cX7_isAsKnown 20 = .ok (.iload_n 0, 1) := by decide +kernel
theorem dX7_isAsKnown_21 : decode cX7_isAsKnown 21 = .ok (.iload_n 2, 1) := by decide +kernel
theorem dX7_isAsKnown_22 : decode cX7_isAsKnown 22 = .ok (.if_icmp .eq 7, 3) := by decide +kernel
theorem dX7_isAsKnown_25 : decode cX7_isAsKnown 25 = .ok (.iconst 1, 1) := by decide +kernel
theorem dX7_isAsKnown_26 : decode cX7_isAsKnown 26 = .ok (.goto 4, 3) := by decide +kernel
theorem dX7_isAsKnown_29 : decode cX7_isAsKnown 29 = .ok (.iconst 0, 1) := by decide +kernel
theorem dX7_isAsKnown_30 : decode cX7_isAsKnown 30 = .ok (.ireturn, 1) := by decide +kernel
set_option maxRecDepth 20000 in
theorem ggX7_addCopy_X7_ruleState : GoodIn wsX7_addCopy wsX7_ruleState := goodIn_g _ [(5, 1)] (by exact rfl) (by decide +kernel)
set_option maxRecDepth 20000 in
theorem gX7_addCopy_X7_ruleState : GoodIn wsX7_addCopy (va_wsS RX7 185 yX7_ruleState wsX7_ruleState) := goodIn_app (goodIn_of _ (by decide +kernel)) ggX7_addCopy_X7_ruleState
set_option maxRecDepth 20000 in
theorem ggX7_addCopy_X1_addArc : GoodIn wsX7_addCopy wsX1_addArc := goodIn_g _ [(10, 6), (4, 1), (16, 1), (25, 13)] (by exact rfl) (by decide +kernel)
set_option maxRecDepth 20000 in
theorem gX7_addCopy_X1_addArc : GoodIn wsX7_addCopy (wsV RX7 80 RX1 yX1_addArc wsX1_addArc) := goodIn_app (goodIn_of _ (by decide +kernel)) ggX7_addCopy_X1_addArc
theorem dX7_addCopy_0 : decode cX7_addCopy 0 = .ok (.aload_n 0, 1) := by decide +kernel
theorem dX7_addCopy_1 : decode cX7_addCopy 1 = .ok (.getfield 30, 3) := by decide +kernel
theorem dX7_addCopy_4 : decode cX7_addCopy 4 = .ok (.iload_n 1, 1) := by decide +kernel
theorem dX7_addCopy_5 : decode cX7_addCopy 5 = .ok (.iload_n 2, 1) := by decide +kernel
theorem dX7_addCopy_6 : decode cX7_addCopy 6 = .ok (.invokestatic 185, 3) := by decide +kernel
theorem dX7_addCopy_9 : decode cX7_addCopy 9 = .ok (.iload_n 3, 1) := by decide +kernel
theorem dX7_addCopy_10 : decode cX7_addCopy 10 = .ok (.iload_n 3, 1) := by decide +kernel
theorem dX7_addCopy_11 : decode cX7_addCopy 11 = .ok (.iconst 0, 1) := by decide +kernel
theorem dX7_addCopy_12 : decode cX7_addCopy 12 = .ok (.iload 4, 2) := by decide +kernel
theorem dX7_addCopy_14 : decode cX7_addCopy 14 = .ok (.iconst 0, 1) := by decide +kernel
theorem dX7_addCopy_15 : decode cX7_addCopy 15 = .ok (.invokestatic 185, 3) := by decide +kernel
theorem dX7_addCopy_18 : decode cX7_addCopy 18 = .ok (.invokevirtual 80, 3) := by decide +kernel
theorem dX7_addCopy_21 : decode cX7_addCopy 21 = .ok (.return_, 1) := by decide +kernel
set_option maxRecDepth 20000 in
theorem ggX7_addRewriting_X7_ruleState : GoodIn wsX7_addRewriting wsX7_ruleState := goodIn_g _ [(5, 1)] (by exact rfl) (by decide +kernel)
set_option maxRecDepth 20000 in
theorem gX7_addRewriting_X7_ruleState : GoodIn wsX7_addRewriting (va_wsS RX7 185 yX7_ruleState wsX7_ruleState) := goodIn_app (goodIn_of _ (by decide +kernel)) ggX7_addRewriting_X7_ruleState
set_option maxRecDepth 20000 in
theorem ggX7_addRewriting_X1_addArc : GoodIn wsX7_addRewriting wsX1_addArc := goodIn_g _ [(10, 6), (4, 1), (16, 1), (25, 13)] (by exact rfl) (by decide +kernel)
set_option maxRecDepth 20000 in
theorem gX7_addRewriting_X1_addArc : GoodIn wsX7_addRewriting (wsV RX7 80 RX1 yX1_addArc wsX1_addArc) := goodIn_app (goodIn_of _ (by decide +kernel)) ggX7_addRewriting_X1_addArc
theorem dX7_addRewriting_0 : decode cX7_addRewriting 0 = .ok (.iload 4, 2) := by decide +kernel
theorem dX7_addRewriting_2 : decode cX7_addRewriting 2 = .ok (.iconst (-1), 1) := by decide +kernel
theorem dX7_addRewriting_3 : decode cX7_addRewriting 3 = .ok (.if_icmp .ne 23, 3) := by decide +kernel
theorem dX7_addRewriting_6 : decode cX7_addRewriting 6 = .ok (.aload_n 0, 1) := by decide +kernel
theorem dX7_addRewriting_7 : decode cX7_addRewriting 7 = .ok (.getfield 30, 3) := by decide +kernel
theorem dX7_addRewriting_10 : decode cX7_addRewriting 10 = .ok (.iload_n 1, 1) := by decide +kernel
theorem dX7_addRewriting_11 : decode cX7_addRewriting 11 = .ok (.iload_n 2, 1) := by decide +kernel
theorem dX7_addRewriting_12 : decode cX7_addRewriting 12 = .ok (.iload_n 3, 1) := by decide +kernel
theorem dX7_addRewriting_13 : decode cX7_addRewriting 13 = .ok (.iconst 0, 1) := by decide +kernel
theorem dX7_addRewriting_14 : decode cX7_addRewriting 14 = .ok (.iload 5, 2) := by decide +kernel
theorem dX7_addRewriting_16 : decode cX7_addRewriting 16 = .ok (.iconst 0, 1) := by decide +kernel
theorem dX7_addRewriting_17 : decode cX7_addRewriting 17 = .ok (.invokestatic 185, 3) := by decide +kernel
theorem dX7_addRewriting_20 : decode cX7_addRewriting 20 = .ok (.invokevirtual 80, 3) := by decide +kernel
theorem dX7_addRewriting_23 : decode cX7_addRewriting 23 = .ok (.goto 37, 3) := by decide +kernel
theorem dX7_addRewriting_26 : decode cX7_addRewriting 26 = .ok (.aload_n 0, 1) := by decide +kernel
theorem dX7_addRewriting_27 : decode cX7_addRewriting 27 = .ok (.getfield 30, 3) := by decide +kernel
theorem dX7_addRewriting_30 : decode cX7_addRewriting 30 = .ok (.iload_n 1, 1) := by decide +kernel
theorem dX7_addRewriting_31 : decode cX7_addRewriting 31 = .ok (.iload_n 2, 1) := by decide +kernel
theorem dX7_addRewriting_32 : decode cX7_addRewriting 32 = .ok (.iload_n 3, 1) := by decide +kernel
theorem dX7_addRewriting_33 : decode cX7_addRewriting 33 = .ok (.iconst 0, 1) := by decide +kernel
theorem dX7_addRewriting_34 : decode cX7_addRewriting 34 = .ok (.iload 5, 2) := by decide +kernel
theorem dX7_addRewriting_36 : decode cX7_addRewriting 36 = .ok (.iconst 1, 1) := by decide +kernel
theorem dX7_addRewriting_37 : decode cX7_addRewriting 37 = .ok (.invokestatic 185, 3) := by decide +kernel
theorem dX7_addRewriting_40 : decode cX7_addRewriting 40 = .ok (.invokevirtual 80, 3) := by decide +kernel
theorem dX7_addRewriting_43 : decode cX7_addRewriting 43 = .ok (.aload_n 0, 1) := by decide +kernel
theorem dX7_addRewriting_44 : decode cX7_addRewriting 44 = .ok (.getfield 30, 3) := by decide +kernel
theorem dX7_addRewriting_47 : decode cX7_addRewriting 47 = .ok (.iload_n 1, 1) := by decide +kernel
theorem dX7_addRewriting_48 : decode cX7_addRewriting 48 = .ok (.iload_n 2, 1) := by decide +kernel
theorem dX7_addRewriting_49 : decode cX7_addRewriting 49 = .ok (.iload_n 2, 1) := by decide +kernel
theorem dX7_addRewriting_50 : decode cX7_addRewriting 50 = .ok (.iconst 0, 1) := by decide +kernel
theorem dX7_addRewriting_51 : decode cX7_addRewriting 51 = .ok (.iload 5, 2) := by decide +kernel
theorem dX7_addRewriting_53 : decode cX7_addRewriting 53 = .ok (.iconst 2, 1) := by decide +kernel
theorem dX7_addRewriting_54 : decode cX7_addRewriting 54 = .ok (.invokestatic 185, 3) := by decide +kernel
theorem dX7_addRewriting_57 : decode cX7_addRewriting 57 = .ok (.invokevirtual 80, 3) := by decide +kernel
theorem dX7_addRewriting_60 : decode cX7_addRewriting 60 = .ok (.iload 6, 2) := by decide +kernel
theorem dX7_addRewriting_62 : decode cX7_addRewriting 62 = .ok (.ifCond .eq 20, 3) := by decide +kernel
theorem dX7_addRewriting_65 : decode cX7_addRewriting 65 = .ok (.aload_n 0, 1) := by decide +kernel
theorem dX7_addRewriting_66 : decode cX7_addRewriting 66 = .ok (.getfield 30, 3) := by decide +kernel
theorem dX7_addRewriting_69 : decode cX7_addRewriting 69 = .ok (.iload_n 1, 1) := by decide +kernel
theorem dX7_addRewriting_70 : decode cX7_addRewriting 70 = .ok (.iload_n 2, 1) := by decide +kernel
theorem dX7_addRewriting_71 : decode cX7_addRewriting 71 = .ok (.iload_n 2, 1) := by decide +kernel
theorem dX7_addRewriting_72 : decode cX7_addRewriting 72 = .ok (.iconst 0, 1) := by decide +kernel
theorem dX7_addRewriting_73 : decode cX7_addRewriting 73 = .ok (.iload 5, 2) := by decide +kernel
theorem dX7_addRewriting_75 : decode cX7_addRewriting 75 = .ok (.iconst 0, 1) := by decide +kernel
theorem dX7_addRewriting_76 : decode cX7_addRewriting 76 = .ok (.invokestatic 185, 3) := by decide +kernel
theorem dX7_addRewriting_79 : decode cX7_addRewriting 79 = .ok (.invokevirtual 80, 3) := by decide +kernel
theorem dX7_addRewriting_82 : decode cX7_addRewriting 82 = .ok (.return_, 1) := by decide +kernel
set_option maxRecDepth 20000 in
theorem ggX7_lookUp_X4_begin : GoodIn wsX7_lookUp wsX4_begin := goodIn_g _ [(9, 17), (8, 1), (26, 55), (89, 20)] (by exact rfl) (by decide +kernel)
set_option maxRecDepth 20000 in
theorem gX7_lookUp_X4_begin : GoodIn wsX7_lookUp (wsV RX7 240 RX4 yX4_begin wsX4_begin) := goodIn_app (goodIn_of _ (by decide +kernel)) ggX7_lookUp_X4_begin
theorem dX7_lookUp_0 : decode cX7_lookUp 0 = .ok (.iload_n 2, 1) := by decide +kernel
theorem dX7_lookUp_1 : decode cX7_lookUp 1 = .ok (.ifCond .eq 7, 3) := by decide +kernel
theorem dX7_lookUp_4 : decode cX7_lookUp 4 = .ok (.iconst 1, 1) := by decide +kernel
theorem dX7_lookUp_5 : decode cX7_lookUp 5 = .ok (.goto 4, 3) := by decide +kernel
theorem dX7_lookUp_8 : decode cX7_lookUp 8 = .ok (.iconst 0, 1) := by decide +kernel
theorem dX7_lookUp_9 : decode cX7_lookUp 9 = .ok (.istore_n 3, 1) := by decide +kernel
theorem dX7_lookUp_10 : decode cX7_lookUp 10 = .ok (.aload_n 0, 1) := by decide +kernel
theorem dX7_lookUp_11 : decode cX7_lookUp 11 = .ok (.getfield 44, 3) := by decide +kernel
theorem dX7_lookUp_14 : decode cX7_lookUp 14 = .ok (.aload_n 0, 1) := by decide +kernel
theorem dX7_lookUp_15 : decode cX7_lookUp 15 = .ok (.getfield 19, 3) := by decide +kernel
theorem dX7_lookUp_18 : decode cX7_lookUp 18 = .ok (.iload_n 1, 1) := by decide +kernel
theorem dX7_lookUp_19 : decode cX7_lookUp 19 = .ok (.aaload, 1) := by decide +kernel
theorem dX7_lookUp_20 : decode cX7_lookUp 20 = .ok (.aload_n 0, 1) := by decide +kernel
theorem dX7_lookUp_21 : decode cX7_lookUp 21 = .ok (.getfield 9, 3) := by decide +kernel
theorem dX7_lookUp_24 : decode cX7_lookUp 24 = .ok (.aload_n 0, 1) := by decide +kernel
theorem dX7_lookUp_25 : decode cX7_lookUp 25 = .ok (.getfield 13, 3) := by decide +kernel
theorem dX7_lookUp_28 : decode cX7_lookUp 28 = .ok (.iload_n 3, 1) := by decide +kernel
theorem dX7_lookUp_29 : decode cX7_lookUp 29 = .ok (.invokevirtual 240, 3) := by decide +kernel
theorem dX7_lookUp_32 : decode cX7_lookUp 32 = .ok (.return_, 1) := by decide +kernel
theorem dX7_isRewritten_0 : decode cX7_isRewritten 0 = .ok (.iload_n 3, 1) := by decide +kernel
theorem dX7_isRewritten_1 : decode cX7_isRewritten 1 = .ok (.iconst (-1), 1) := by decide +kernel
theorem dX7_isRewritten_2 : decode cX7_isRewritten 2 = .ok (.if_icmp .eq 19, 3) := by decide +kernel
theorem dX7_isRewritten_5 : decode cX7_isRewritten 5 = .ok (.iload_n 1, 1) := by decide +kernel
theorem dX7_isRewritten_6 : decode cX7_isRewritten 6 = .ok (.ifCond .le 19, 3) := by decide +kernel
theorem dX7_isRewritten_9 : decode cX7_isRewritten 9 = .ok (.aload_n 0, 1) := by decide +kernel
theorem dX7_isRewritten_10 : decode cX7_isRewritten 10 = .ok (.getfield 9, 3) := by decide +kernel
theorem dX7_isRewritten_13 : decode cX7_isRewritten 13 = .ok (.iload_n 1, 1) := by decide +kernel
theorem dX7_isRewritten_14 : decode cX7_isRewritten 14 = .ok (.iconst 1, 1) := by decide +kernel
theorem dX7_isRewritten_15 : decode cX7_isRewritten 15 = .ok (.isub, 1) := by decide +kernel
theorem dX7_isRewritten_16 : decode cX7_isRewritten 16 = .ok (.iaload, 1) := by decide +kernel
theorem dX7_isRewritten_17 : decode cX7_isRewritten 17 = .ok (.iload_n 3, 1) := by decide +kernel
theorem dX7_isRewritten_18 : decode cX7_isRewritten 18 = .ok (.if_icmp .ne 7, 3) := by decide +kernel
theorem dX7_isRewritten_21 : decode cX7_isRewritten 21 = .ok (.iconst 1, 1) := by decide +kernel
theorem dX7_isRewritten_22 : decode cX7_isRewritten 22 = .ok (.goto 4, 3) := by decide +kernel
theorem dX7_isRewritten_25 : decode cX7_isRewritten 25 = .ok (.iconst 0, 1) := by decide +kernel
theorem dX7_isRewritten_26 : decode cX7_isRewritten 26 = .ok (.istore 5, 2) := by decide +kernel
theorem dX7_isRewritten_28 : decode cX7_isRewritten 28 = .ok (.iload 4, 2) := by decide +kernel
theorem dX7_isRewritten_30 : decode cX7_isRewritten 30 = .ok (.iconst (-1), 1) := by decide +kernel
theorem dX7_isRewritten_31 : decode cX7_isRewritten 31 = .ok (.if_icmp .eq 26, 3) := by decide +kernel
theorem dX7_isRewritten_34 : decode cX7_isRewritten 34 = .ok (.iload_n 1, 1) := by decide +kernel
theorem dX7_isRewritten_35 : decode cX7_isRewritten 35 = .ok (.iconst 1, 1) := by decide +kernel
theorem dX7_isRewritten_36 : decode cX7_isRewritten 36 = .ok (.iadd, 1) := by decide +kernel
theorem dX7_isRewritten_37 : decode cX7_isRewritten 37 = .ok (.aload_n 0, 1) := by decide +kernel
theorem dX7_isRewritten_38 : decode cX7_isRewritten 38 = .ok (.getfield 13, 3) := by decide +kernel
theorem dX7_isRewritten_41 : decode cX7_isRewritten 41 = .ok (.if_icmp .ge 20, 3) := by decide +kernel
theorem dX7_isRewritten_44 : decode cX7_isRewritten 44 = .ok (.aload_n 0, 1) := by decide +kernel
theorem dX7_isRewritten_45 : decode cX7_isRewritten 45 = .ok (.getfield 9, 3) := by decide +kernel
theorem dX7_isRewritten_48 : decode cX7_isRewritten 48 = .ok (.iload_n 1, 1) := by decide +kernel
theorem dX7_isRewritten_49 : decode cX7_isRewritten 49 = .ok (.iconst 1, 1) := by decide +kernel
theorem dX7_isRewritten_50 : decode cX7_isRewritten 50 = .ok (.iadd, 1) := by decide +kernel
theorem dX7_isRewritten_51 : decode cX7_isRewritten 51 = .ok (.iaload, 1) := by decide +kernel
theorem dX7_isRewritten_52 : decode cX7_isRewritten 52 = .ok (.iload 4, 2) := by decide +kernel
theorem dX7_isRewritten_54 : decode cX7_isRewritten 54 = .ok (.if_icmp .ne 7, 3) := by decide +kernel
theorem dX7_isRewritten_57 : decode cX7_isRewritten 57 = .ok (.iconst 1, 1) := by decide +kernel
theorem dX7_isRewritten_58 : decode cX7_isRewritten 58 = .ok (.goto 4, 3) := by decide +kernel
theorem dX7_isRewritten_61 : decode cX7_isRewritten 61 = .ok (.iconst 0, 1) := by decide +kernel
theorem dX7_isRewritten_62 : decode cX7_isRewritten 62 = .ok (.istore 6, 2) := by decide +kernel
theorem dX7_isRewritten_64 : decode cX7_isRewritten 64 = .ok (.aload_n 0, 1) := by decide +kernel
theorem dX7_isRewritten_65 : decode cX7_isRewritten 65 = .ok (.getfield 9, 3) := by decide +kernel
theorem dX7_isRewritten_68 : decode cX7_isRewritten 68 = .ok (.iload_n 1, 1) := by decide +kernel
theorem dX7_isRewritten_69 : decode cX7_isRewritten 69 = .ok (.iaload, 1) := by decide +kernel
theorem dX7_isRewritten_70 : decode cX7_isRewritten 70 = .ok (.iload_n 2, 1) := by decide +kernel
theorem dX7_isRewritten_71 : decode cX7_isRewritten 71 = .ok (.if_icmp .ne 17, 3) := by decide +kernel
theorem dX7_isRewritten_74 : decode cX7_isRewritten 74 = .ok (.iload 5, 2) := by decide +kernel
theorem dX7_isRewritten_76 : decode cX7_isRewritten 76 = .ok (.ifCond .eq 12, 3) := by decide +kernel
theorem dX7_isRewritten_79 : decode cX7_isRewritten 79 = .ok (.iload 6, 2) := by decide +kernel
theorem dX7_isRewritten_81 : decode cX7_isRewritten 81 = .ok (.ifCond .eq 7, 3) := by decide +kernel
theorem dX7_isRewritten_84 : decode cX7_isRewritten 84 = .ok (.iconst 1, 1) := by decide +kernel
theorem dX7_isRewritten_85 : decode cX7_isRewritten 85 = .ok (.goto 4, 3) := by decide +kernel
theorem dX7_isRewritten_88 : decode cX7_isRewritten 88 = .ok (.iconst 0, 1) := by decide +kernel
theorem dX7_isRewritten_89 : decode cX7_isRewritten 89 = .ok (.ireturn, 1) := by decide +kernel
theorem dX7_packedArc_0 : decode cX7_packedArc 0 = .ok (.iload_n 0, 1) := by decide +kernel
theorem dX7_packedArc_1 : decode cX7_packedArc 1 = .ok (.bipush 18, 2) := by decide +kernel
theorem dX7_packedArc_3 : decode cX7_packedArc 3 = .ok (.ishl, 1) := by decide +kernel
theorem dX7_packedArc_4 : decode cX7_packedArc 4 = .ok (.iload_n 1, 1) := by decide +kernel
theorem dX7_packedArc_5 : decode cX7_packedArc 5 = .ok (.bipush 14, 2) := by decide +kernel
theorem dX7_packedArc_7 : decode cX7_packedArc 7 = .ok (.ishl, 1) := by decide +kernel
theorem dX7_packedArc_8 : decode cX7_packedArc 8 = .ok (.ior, 1) := by decide +kernel
theorem dX7_packedArc_9 : decode cX7_packedArc 9 = .ok (.iload_n 2, 1) := by decide +kernel
theorem dX7_packedArc_10 : decode cX7_packedArc 10 = .ok (.bipush 10, 2) := by decide +kernel
theorem dX7_packedArc_12 : decode cX7_packedArc 12 = .ok (.ishl, 1) := by decide +kernel
theorem dX7_packedArc_13 : decode cX7_packedArc 13 = .ok (.ior, 1) := by decide +kernel
theorem dX7_packedArc_14 : decode cX7_packedArc 14 = .ok (.iload_n 3, 1) := by decide +kernel
theorem dX7_packedArc_15 : decode cX7_packedArc 15 = .ok (.ior, 1) := by decide +kernel
theorem dX7_packedArc_16 : decode cX7_packedArc 16 = .ok (.ireturn, 1) := by decide +kernel
theorem dX7_fromOf_0 : decode cX7_fromOf 0 = .ok (.iload_n 0, 1) := by decide +kernel
theorem dX7_fromOf_1 : decode cX7_fromOf 1 = .ok (.bipush 18, 2) := by decide +kernel
theorem dX7_fromOf_3 : decode cX7_fromOf 3 = .ok (.iushr, 1) := by decide +kernel
theorem dX7_fromOf_4 : decode cX7_fromOf 4 = .ok (.ireturn, 1) := by decide +kernel
theorem dX7_upperOf_0 : decode cX7_upperOf 0 = .ok (.iload_n 0, 1) := by decide +kernel
theorem dX7_upperOf_1 : decode cX7_upperOf 1 = .ok (.bipush 14, 2) := by decide +kernel
theorem dX7_upperOf_3 : decode cX7_upperOf 3 = .ok (.iushr, 1) := by decide +kernel
theorem dX7_upperOf_4 : decode cX7_upperOf 4 = .ok (.bipush 15, 2) := by decide +kernel
theorem dX7_upperOf_6 : decode cX7_upperOf 6 = .ok (.iand, 1) := by decide +kernel
theorem dX7_upperOf_7 : decode cX7_upperOf 7 = .ok (.ireturn, 1) := by decide +kernel
theorem dX7_lowerOf_0 : decode cX7_lowerOf 0 = .ok (.iload_n 0, 1) := by decide +kernel
theorem dX7_lowerOf_1 : decode cX7_lowerOf 1 = .ok (.bipush 10, 2) := by decide +kernel
theorem dX7_lowerOf_3 : decode cX7_lowerOf 3 = .ok (.iushr, 1) := by decide +kernel
theorem dX7_lowerOf_4 : decode cX7_lowerOf 4 = .ok (.bipush 15, 2) := by decide +kernel
theorem dX7_lowerOf_6 : decode cX7_lowerOf 6 = .ok (.iand, 1) := by decide +kernel
theorem dX7_lowerOf_7 : decode cX7_lowerOf 7 = .ok (.ireturn, 1) := by decide +kernel
theorem dX7_toOf_0 : decode cX7_toOf 0 = .ok (.iload_n 0, 1) := by decide +kernel
theorem dX7_toOf_1 : decode cX7_toOf 1 = .ok (.sipush 1023, 3) := by decide +kernel
theorem dX7_toOf_4 : decode cX7_toOf 4 = .ok (.iand, 1) := by decide +kernel
theorem dX7_toOf_5 : decode cX7_toOf 5 = .ok (.ireturn, 1) := by decide +kernel
theorem dX7_holds_0 : decode cX7_holds 0 = .ok (.iload_n 0, 1) := by decide +kernel
theorem dX7_holds_1 : decode cX7_holds 1 = .ok (.iload_n 1, 1) := by decide +kernel
theorem dX7_holds_2 : decode cX7_holds 2 = .ok (.iushr, 1) := by decide +kernel
theorem dX7_holds_3 : decode cX7_holds 3 = .ok (.iconst 1, 1) := by decide +kernel
theorem dX7_holds_4 : decode cX7_holds 4 = .ok (.iand, 1) := by decide +kernel
theorem dX7_holds_5 : decode cX7_holds 5 = .ok (.iconst 1, 1) := by decide +kernel
theorem dX7_holds_6 : decode cX7_holds 6 = .ok (.if_icmp .ne 7, 3) := by decide +kernel
theorem dX7_holds_9 : decode cX7_holds 9 = .ok (.iconst 1, 1) := by decide +kernel
theorem dX7_holds_10 : decode cX7_holds 10 = .ok (.goto 4, 3) := by decide +kernel
theorem dX7_holds_13 : decode cX7_holds 13 = .ok (.iconst 0, 1) := by decide +kernel
theorem dX7_holds_14 : decode cX7_holds 14 = .ok (.ireturn, 1) := by decide +kernel
theorem dJ9_min_7cf53_0 : decode cJ9_min_7cf53 0 = .ok (.iload_n 0, 1) := by decide +kernel
theorem dJ9_min_7cf53_1 : decode cJ9_min_7cf53 1 = .ok (.iload_n 1, 1) := by decide +kernel
theorem dJ9_min_7cf53_2 : decode cJ9_min_7cf53 2 = .ok (.if_icmp .gt 7, 3) := by decide +kernel
theorem dJ9_min_7cf53_5 : decode cJ9_min_7cf53 5 = .ok (.iload_n 0, 1) := by decide +kernel
theorem dJ9_min_7cf53_6 : decode cJ9_min_7cf53 6 = .ok (.goto 4, 3) := by decide +kernel
theorem dJ9_min_7cf53_9 : decode cJ9_min_7cf53 9 = .ok (.iload_n 1, 1) := by decide +kernel
theorem dJ9_min_7cf53_10 : decode cJ9_min_7cf53 10 = .ok (.ireturn, 1) := by decide +kernel
