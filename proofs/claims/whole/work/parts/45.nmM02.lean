theorem dX8_isKept_23 : decode cX8_isKept 23 = .ok (.if_icmp .ne 19, 3) := by decide +kernel
theorem dX8_isKept_26 : decode cX8_isKept 26 = .ok (.iload_n 1, 1) := by decide +kernel
theorem dX8_isKept_27 : decode cX8_isKept 27 = .ok (.ifCond .ne 7, 3) := by decide +kernel
theorem dX8_isKept_30 : decode cX8_isKept 30 = .ok (.iload_n 2, 1) := by decide +kernel
theorem dX8_isKept_31 : decode cX8_isKept 31 = .ok (.ifCond .eq 7, 3) := by decide +kernel
theorem dX8_isKept_34 : decode cX8_isKept 34 = .ok (.iconst 1, 1) := by decide +kernel
theorem dX8_isKept_35 : decode cX8_isKept 35 = .ok (.goto 16, 3) := by decide +kernel
theorem dX8_isKept_38 : decode cX8_isKept 38 = .ok (.iconst 0, 1) := by decide +kernel
theorem dX8_isKept_39 : decode cX8_isKept 39 = .ok (.goto 12, 3) := by decide +kernel
theorem dX8_isKept_42 : decode cX8_isKept 42 = .ok (.iload_n 1, 1) := by decide +kernel
theorem dX8_isKept_43 : decode cX8_isKept 43 = .ok (.ifCond .eq 7, 3) := by decide +kernel
theorem dX8_isKept_46 : decode cX8_isKept 46 = .ok (.iconst 1, 1) := by decide +kernel
theorem dX8_isKept_47 : decode cX8_isKept 47 = .ok (.goto 4, 3) := by decide +kernel
theorem dX8_isKept_50 : decode cX8_isKept 50 = .ok (.iconst 0, 1) := by decide +kernel
theorem dX8_isKept_51 : decode cX8_isKept 51 = .ok (.ireturn, 1) := by decide +kernel
set_option maxRecDepth 20000 in
theorem ggX8_looks_X8_closed : GoodIn wsX8_looks wsX8_closed := goodIn_g _ [(9, 5), (27, 47)] (by exact rfl) (by decide +kernel)
set_option maxRecDepth 20000 in
theorem gX8_looks_X8_closed : GoodIn wsX8_looks (wsV RX8 230 RX8 yX8_closed wsX8_closed) := goodIn_app (goodIn_of _ (by decide +kernel)) ggX8_looks_X8_closed
set_option maxRecDepth 20000 in
theorem ggX8_looks_X8_placeOf : GoodIn wsX8_looks wsX8_placeOf := goodIn_g _ [(17, 1), (1, 3), (18, 2), (27, 47)] (by exact rfl) (by decide +kernel)
set_option maxRecDepth 20000 in
theorem gX8_looks_X8_placeOf : GoodIn wsX8_looks (wsV RX8 236 RX8 yX8_placeOf wsX8_placeOf) := goodIn_app (goodIn_of _ (by decide +kernel)) ggX8_looks_X8_placeOf
set_option maxRecDepth 20000 in
theorem ggX8_looks_X8_step : GoodIn wsX8_looks wsX8_step := goodIn_g _ [(23, 1), (10, 4), (5, 5), (27, 47)] (by exact rfl) (by decide +kernel)
set_option maxRecDepth 20000 in
theorem gX8_looks_X8_step : GoodIn wsX8_looks (wsV RX8 240 RX8 yX8_step wsX8_step) := goodIn_app (goodIn_of _ (by decide +kernel)) ggX8_looks_X8_step
set_option maxRecDepth 20000 in
theorem ggX8_looks_X8_isKept : GoodIn wsX8_looks wsX8_isKept := goodIn_g _ [(26, 1)] (by exact rfl) (by decide +kernel)
set_option maxRecDepth 20000 in
theorem gX8_looks_X8_isKept : GoodIn wsX8_looks (va_wsS RX8 244 yX8_isKept wsX8_isKept) := goodIn_app (goodIn_of _ (by decide +kernel)) ggX8_looks_X8_isKept
theorem dX8_looks_0 : decode cX8_looks 0 = .ok (.aload_n 0, 1) := by decide +kernel
theorem dX8_looks_1 : decode cX8_looks 1 = .ok (.iconst 0, 1) := by decide +kernel
theorem dX8_looks_2 : decode cX8_looks 2 = .ok (.putfield 233, 3) := by decide +kernel
theorem dX8_looks_5 : decode cX8_looks 5 = .ok (.aload_n 0, 1) := by decide +kernel
theorem dX8_looks_6 : decode cX8_looks 6 = .ok (.aload_n 0, 1) := by decide +kernel
theorem dX8_looks_7 : decode cX8_looks 7 = .ok (.iload_n 1, 1) := by decide +kernel
theorem dX8_looks_8 : decode cX8_looks 8 = .ok (.iconst 1, 1) := by decide +kernel
theorem dX8_looks_9 : decode cX8_looks 9 = .ok (.invokevirtual 230, 3) := by decide +kernel
theorem dX8_looks_12 : decode cX8_looks 12 = .ok (.iload_n 3, 1) := by decide +kernel
theorem dX8_looks_13 : decode cX8_looks 13 = .ok (.ifCond .ne 7, 3) := by decide +kernel
theorem dX8_looks_16 : decode cX8_looks 16 = .ok (.iconst 0, 1) := by decide +kernel
theorem dX8_looks_17 : decode cX8_looks 17 = .ok (.goto 9, 3) := by decide +kernel
theorem dX8_looks_20 : decode cX8_looks 20 = .ok (.aload_n 0, 1) := by decide +kernel
theorem dX8_looks_21 : decode cX8_looks 21 = .ok (.iload_n 2, 1) := by decide +kernel
theorem dX8_looks_22 : decode cX8_looks 22 = .ok (.iconst 1, 1) := by decide +kernel
theorem dX8_looks_23 : decode cX8_looks 23 = .ok (.invokevirtual 230, 3) := by decide +kernel
theorem dX8_looks_26 : decode cX8_looks 26 = .ok (.iconst (-1), 1) := by decide +kernel
theorem dX8_looks_27 : decode cX8_looks 27 = .ok (.iconst 0, 1) := by decide +kernel
theorem dX8_looks_28 : decode cX8_looks 28 = .ok (.invokevirtual 236, 3) := by decide +kernel
theorem dX8_looks_31 : decode cX8_looks 31 = .ok (.ifCond .ne 7, 3) := by decide +kernel
theorem dX8_looks_34 : decode cX8_looks 34 = .ok (.iconst 1, 1) := by decide +kernel
theorem dX8_looks_35 : decode cX8_looks 35 = .ok (.goto 4, 3) := by decide +kernel
theorem dX8_looks_38 : decode cX8_looks 38 = .ok (.iconst 0, 1) := by decide +kernel
theorem dX8_looks_39 : decode cX8_looks 39 = .ok (.istore 4, 2) := by decide +kernel
theorem dX8_looks_41 : decode cX8_looks 41 = .ok (.iconst 0, 1) := by decide +kernel
theorem dX8_looks_42 : decode cX8_looks 42 = .ok (.istore 5, 2) := by decide +kernel
theorem dX8_looks_44 : decode cX8_looks 44 = .ok (.iload 5, 2) := by decide +kernel
theorem dX8_looks_46 : decode cX8_looks 46 = .ok (.aload_n 0, 1) := by decide +kernel
theorem dX8_looks_47 : decode cX8_looks 47 = .ok (.getfield 233, 3) := by decide +kernel
theorem dX8_looks_50 : decode cX8_looks 50 = .ok (.if_icmp .ge 149, 3) := by decide +kernel
theorem dX8_looks_53 : decode cX8_looks 53 = .ok (.iload 4, 2) := by decide +kernel
theorem dX8_looks_55 : decode cX8_looks 55 = .ok (.ifCond .eq 144, 3) := by decide +kernel
theorem dX8_looks_58 : decode cX8_looks 58 = .ok (.iconst 0, 1) := by decide +kernel
theorem dX8_looks_59 : decode cX8_looks 59 = .ok (.istore 6, 2) := by decide +kernel
theorem dX8_looks_61 : decode cX8_looks 61 = .ok (.iload 6, 2) := by decide +kernel
theorem dX8_looks_63 : decode cX8_looks 63 = .ok (.bipush 8, 2) := by decide +kernel
theorem dX8_looks_65 : decode cX8_looks 65 = .ok (.if_icmp .ge 128, 3) := by decide +kernel
theorem dX8_looks_68 : decode cX8_looks 68 = .ok (.iload 4, 2) := by decide +kernel
theorem dX8_looks_70 : decode cX8_looks 70 = .ok (.ifCond .eq 123, 3) := by decide +kernel
theorem dX8_looks_73 : decode cX8_looks 73 = .ok (.aload_n 0, 1) := by decide +kernel
theorem dX8_looks_74 : decode cX8_looks 74 = .ok (.iload_n 1, 1) := by decide +kernel
theorem dX8_looks_75 : decode cX8_looks 75 = .ok (.aload_n 0, 1) := by decide +kernel
theorem dX8_looks_76 : decode cX8_looks 76 = .ok (.getfield 75, 3) := by decide +kernel
theorem dX8_looks_79 : decode cX8_looks 79 = .ok (.iload 5, 2) := by decide +kernel
theorem dX8_looks_81 : decode cX8_looks 81 = .ok (.iaload, 1) := by decide +kernel
theorem dX8_looks_82 : decode cX8_looks 82 = .ok (.iload 6, 2) := by decide +kernel
theorem dX8_looks_84 : decode cX8_looks 84 = .ok (.invokevirtual 240, 3) := by decide +kernel
theorem dX8_looks_87 : decode cX8_looks 87 = .ok (.istore 7, 2) := by decide +kernel
theorem dX8_looks_89 : decode cX8_looks 89 = .ok (.iload_n 3, 1) := by decide +kernel
theorem dX8_looks_90 : decode cX8_looks 90 = .ok (.ifCond .ne 7, 3) := by decide +kernel
theorem dX8_looks_93 : decode cX8_looks 93 = .ok (.iconst 0, 1) := by decide +kernel
theorem dX8_looks_94 : decode cX8_looks 94 = .ok (.goto 17, 3) := by decide +kernel
theorem dX8_looks_97 : decode cX8_looks 97 = .ok (.aload_n 0, 1) := by decide +kernel
theorem dX8_looks_98 : decode cX8_looks 98 = .ok (.iload_n 2, 1) := by decide +kernel
theorem dX8_looks_99 : decode cX8_looks 99 = .ok (.aload_n 0, 1) := by decide +kernel
theorem dX8_looks_100 : decode cX8_looks 100 = .ok (.getfield 78, 3) := by decide +kernel
theorem dX8_looks_103 : decode cX8_looks 103 = .ok (.iload 5, 2) := by decide +kernel
theorem dX8_looks_105 : decode cX8_looks 105 = .ok (.iaload, 1) := by decide +kernel
theorem dX8_looks_106 : decode cX8_looks 106 = .ok (.iload 6, 2) := by decide +kernel
theorem dX8_looks_108 : decode cX8_looks 108 = .ok (.invokevirtual 240, 3) := by decide +kernel
theorem dX8_looks_111 : decode cX8_looks 111 = .ok (.istore 8, 2) := by decide +kernel
theorem dX8_looks_113 : decode cX8_looks 113 = .ok (.aload_n 0, 1) := by decide +kernel
theorem dX8_looks_114 : decode cX8_looks 114 = .ok (.getfield 81, 3) := by decide +kernel
theorem dX8_looks_117 : decode cX8_looks 117 = .ok (.bipush 8, 2) := by decide +kernel
theorem dX8_looks_119 : decode cX8_looks 119 = .ok (.iload 5, 2) := by decide +kernel
theorem dX8_looks_121 : decode cX8_looks 121 = .ok (.imul, 1) := by decide +kernel
theorem dX8_looks_122 : decode cX8_looks 122 = .ok (.iload 6, 2) := by decide +kernel
theorem dX8_looks_124 : decode cX8_looks 124 = .ok (.iadd, 1) := by decide +kernel
theorem dX8_looks_125 : decode cX8_looks 125 = .ok (.iconst (-1), 1) := by decide +kernel
theorem dX8_looks_126 : decode cX8_looks 126 = .ok (.iastore, 1) := by decide +kernel
theorem dX8_looks_127 : decode cX8_looks 127 = .ok (.iload_n 3, 1) := by decide +kernel
theorem dX8_looks_128 : decode cX8_looks 128 = .ok (.iload 7, 2) := by decide +kernel
theorem dX8_looks_130 : decode cX8_looks 130 = .ok (.iload 8, 2) := by decide +kernel
theorem dX8_looks_132 : decode cX8_looks 132 = .ok (.invokestatic 244, 3) := by decide +kernel
theorem dX8_looks_135 : decode cX8_looks 135 = .ok (.ifCond .eq 52, 3) := by decide +kernel
theorem dX8_looks_138 : decode cX8_looks 138 = .ok (.aload_n 0, 1) := by decide +kernel
theorem dX8_looks_139 : decode cX8_looks 139 = .ok (.getfield 81, 3) := by decide +kernel
theorem dX8_looks_142 : decode cX8_looks 142 = .ok (.bipush 8, 2) := by decide +kernel
theorem dX8_looks_144 : decode cX8_looks 144 = .ok (.iload 5, 2) := by decide +kernel
theorem dX8_looks_146 : decode cX8_looks 146 = .ok (.imul, 1) := by decide +kernel
theorem dX8_looks_147 : decode cX8_looks 147 = .ok (.iload 6, 2) := by decide +kernel
theorem dX8_looks_149 : decode cX8_looks 149 = .ok (.iadd, 1) := by decide +kernel
theorem dX8_looks_150 : decode cX8_looks 150 = .ok (.aload_n 0, 1) := by decide +kernel
theorem dX8_looks_151 : decode cX8_looks 151 = .ok (.iload 7, 2) := by decide +kernel
theorem dX8_looks_153 : decode cX8_looks 153 = .ok (.iload 8, 2) := by decide +kernel
theorem dX8_looks_155 : decode cX8_looks 155 = .ok (.iload 5, 2) := by decide +kernel
theorem dX8_looks_157 : decode cX8_looks 157 = .ok (.iload 6, 2) := by decide +kernel
theorem dX8_looks_159 : decode cX8_looks 159 = .ok (.invokevirtual 236, 3) := by decide +kernel
theorem dX8_looks_162 : decode cX8_looks 162 = .ok (.iastore, 1) := by decide +kernel
theorem dX8_looks_163 : decode cX8_looks 163 = .ok (.aload_n 0, 1) := by decide +kernel
theorem dX8_looks_164 : decode cX8_looks 164 = .ok (.getfield 81, 3) := by decide +kernel
theorem dX8_looks_167 : decode cX8_looks 167 = .ok (.bipush 8, 2) := by decide +kernel
theorem dX8_looks_169 : decode cX8_looks 169 = .ok (.iload 5, 2) := by decide +kernel
theorem dX8_looks_171 : decode cX8_looks 171 = .ok (.imul, 1) := by decide +kernel
theorem dX8_looks_172 : decode cX8_looks 172 = .ok (.iload 6, 2) := by decide +kernel
theorem dX8_looks_174 : decode cX8_looks 174 = .ok (.iadd, 1) := by decide +kernel
theorem dX8_looks_175 : decode cX8_looks 175 = .ok (.iaload, 1) := by decide +kernel
theorem dX8_looks_176 : decode cX8_looks 176 = .ok (.iconst (-1), 1) := by decide +kernel
theorem dX8_looks_177 : decode cX8_looks 177 = .ok (.if_icmp .eq 7, 3) := by decide +kernel
theorem dX8_looks_180 : decode cX8_looks 180 = .ok (.iconst 1, 1) := by decide +kernel
theorem dX8_looks_181 : decode cX8_looks 181 = .ok (.goto 4, 3) := by decide +kernel
theorem dX8_looks_184 : decode cX8_looks 184 = .ok (.iconst 0, 1) := by decide +kernel
theorem dX8_looks_185 : decode cX8_looks 185 = .ok (.istore 4, 2) := by decide +kernel
theorem dX8_looks_187 : decode cX8_looks 187 = .ok (.iinc 6 1, 3) := by decide +kernel
theorem dX8_looks_190 : decode cX8_looks 190 = .ok (.goto (-129), 3) := by decide +kernel
theorem dX8_looks_193 : decode cX8_looks 193 = .ok (.iinc 5 1, 3) := by decide +kernel
theorem dX8_looks_196 : decode cX8_looks 196 = .ok (.goto (-152), 3) := by decide +kernel
theorem dX8_looks_199 : decode cX8_looks 199 = .ok (.iload 4, 2) := by decide +kernel
theorem dX8_looks_201 : decode cX8_looks 201 = .ok (.ireturn, 1) := by decide +kernel
theorem dX8_isAccepted_0 : decode cX8_isAccepted 0 = .ok (.aload_n 0, 1) := by decide +kernel
theorem dX8_isAccepted_1 : decode cX8_isAccepted 1 = .ok (.getfield 75, 3) := by decide +kernel
theorem dX8_isAccepted_4 : decode cX8_isAccepted 4 = .ok (.iload_n 1, 1) := by decide +kernel
theorem dX8_isAccepted_5 : decode cX8_isAccepted 5 = .ok (.iaload, 1) := by decide +kernel
theorem dX8_isAccepted_6 : decode cX8_isAccepted 6 = .ok (.aload_n 0, 1) := by decide +kernel
theorem dX8_isAccepted_7 : decode cX8_isAccepted 7 = .ok (.getfield 16, 3) := by decide +kernel
theorem dX8_isAccepted_10 : decode cX8_isAccepted 10 = .ok (.iload_n 2, 1) := by decide +kernel
theorem dX8_isAccepted_11 : decode cX8_isAccepted 11 = .ok (.iaload, 1) := by decide +kernel
theorem dX8_isAccepted_12 : decode cX8_isAccepted 12 = .ok (.iand, 1) := by decide +kernel
theorem dX8_isAccepted_13 : decode cX8_isAccepted 13 = .ok (.ifCond .eq 7, 3) := by decide +kernel
theorem dX8_isAccepted_16 : decode cX8_isAccepted 16 = .ok (.iconst 1, 1) := by decide +kernel
theorem dX8_isAccepted_17 : decode cX8_isAccepted 17 = .ok (.goto 4, 3) := by decide +kernel
theorem dX8_isAccepted_20 : decode cX8_isAccepted 20 = .ok (.iconst 0, 1) := by decide +kernel
theorem dX8_isAccepted_21 : decode cX8_isAccepted 21 = .ok (.istore 5, 2) := by decide +kernel
theorem dX8_isAccepted_23 : decode cX8_isAccepted 23 = .ok (.iload 4, 2) := by decide +kernel
theorem dX8_isAccepted_25 : decode cX8_isAccepted 25 = .ok (.ifCond .eq 23, 3) := by decide +kernel
theorem dX8_isAccepted_28 : decode cX8_isAccepted 28 = .ok (.aload_n 0, 1) := by decide +kernel
theorem dX8_isAccepted_29 : decode cX8_isAccepted 29 = .ok (.getfield 78, 3) := by decide +kernel
theorem dX8_isAccepted_32 : decode cX8_isAccepted 32 = .ok (.iload_n 1, 1) := by decide +kernel
theorem dX8_isAccepted_33 : decode cX8_isAccepted 33 = .ok (.iaload, 1) := by decide +kernel
theorem dX8_isAccepted_34 : decode cX8_isAccepted 34 = .ok (.aload_n 0, 1) := by decide +kernel
theorem dX8_isAccepted_35 : decode cX8_isAccepted 35 = .ok (.getfield 16, 3) := by decide +kernel
theorem dX8_isAccepted_38 : decode cX8_isAccepted 38 = .ok (.iload_n 3, 1) := by decide +kernel
theorem dX8_isAccepted_39 : decode cX8_isAccepted 39 = .ok (.iaload, 1) := by decide +kernel
theorem dX8_isAccepted_40 : decode cX8_isAccepted 40 = .ok (.iand, 1) := by decide +kernel
theorem dX8_isAccepted_41 : decode cX8_isAccepted 41 = .ok (.ifCond .eq 7, 3) := by decide +kernel
theorem dX8_isAccepted_44 : decode cX8_isAccepted 44 = .ok (.iconst 1, 1) := by decide +kernel
theorem dX8_isAccepted_45 : decode cX8_isAccepted 45 = .ok (.goto 4, 3) := by decide +kernel
theorem dX8_isAccepted_48 : decode cX8_isAccepted 48 = .ok (.iconst 0, 1) := by decide +kernel
theorem dX8_isAccepted_49 : decode cX8_isAccepted 49 = .ok (.istore 6, 2) := by decide +kernel
theorem dX8_isAccepted_51 : decode cX8_isAccepted 51 = .ok (.iload 4, 2) := by decide +kernel
theorem dX8_isAccepted_53 : decode cX8_isAccepted 53 = .ok (.ifCond .ne 8, 3) := by decide +kernel
theorem dX8_isAccepted_56 : decode cX8_isAccepted 56 = .ok (.iload 5, 2) := by decide +kernel
theorem dX8_isAccepted_58 : decode cX8_isAccepted 58 = .ok (.goto 63, 3) := by decide +kernel
theorem dX8_isAccepted_61 : decode cX8_isAccepted 61 = .ok (.iload 4, 2) := by decide +kernel
theorem dX8_isAccepted_63 : decode cX8_isAccepted 63 = .ok (.iconst 1, 1) := by decide +kernel
theorem dX8_isAccepted_64 : decode cX8_isAccepted 64 = .ok (.if_icmp .ne 21, 3) := by decide +kernel
theorem dX8_isAccepted_67 : decode cX8_isAccepted 67 = .ok (.iload 5, 2) := by decide +kernel
theorem dX8_isAccepted_69 : decode cX8_isAccepted 69 = .ok (.ifCond .eq 12, 3) := by decide +kernel
theorem dX8_isAccepted_72 : decode cX8_isAccepted 72 = .ok (.iload 6, 2) := by decide +kernel
theorem dX8_isAccepted_74 : decode cX8_isAccepted 74 = .ok (.ifCond .eq 7, 3) := by decide +kernel
theorem dX8_isAccepted_77 : decode cX8_isAccepted 77 = .ok (.iconst 1, 1) := by decide +kernel
theorem dX8_isAccepted_78 : decode cX8_isAccepted 78 = .ok (.goto 43, 3) := by decide +kernel
theorem dX8_isAccepted_81 : decode cX8_isAccepted 81 = .ok (.iconst 0, 1) := by decide +kernel
theorem dX8_isAccepted_82 : decode cX8_isAccepted 82 = .ok (.goto 39, 3) := by decide +kernel
theorem dX8_isAccepted_85 : decode cX8_isAccepted 85 = .ok (.iload 4, 2) := by decide +kernel
theorem dX8_isAccepted_87 : decode cX8_isAccepted 87 = .ok (.iconst 2, 1) := by decide +kernel
theorem dX8_isAccepted_88 : decode cX8_isAccepted 88 = .ok (.if_icmp .ne 21, 3) := by decide +kernel
theorem dX8_isAccepted_91 : decode cX8_isAccepted 91 = .ok (.iload 5, 2) := by decide +kernel
theorem dX8_isAccepted_93 : decode cX8_isAccepted 93 = .ok (.ifCond .eq 12, 3) := by decide +kernel
theorem dX8_isAccepted_96 : decode cX8_isAccepted 96 = .ok (.iload 6, 2) := by decide +kernel
theorem dX8_isAccepted_98 : decode cX8_isAccepted 98 = .ok (.ifCond .ne 7, 3) := by decide +kernel
theorem dX8_isAccepted_101 : decode cX8_isAccepted 101 = .ok (.iconst 1, 1) := by decide +kernel
theorem dX8_isAccepted_102 : decode cX8_isAccepted 102 = .ok (.goto 19, 3) := by decide +kernel
theorem dX8_isAccepted_105 : decode cX8_isAccepted 105 = .ok (.iconst 0, 1) := by decide +kernel
theorem dX8_isAccepted_106 : decode cX8_isAccepted 106 = .ok (.goto 15, 3) := by decide +kernel
theorem dX8_isAccepted_109 : decode cX8_isAccepted 109 = .ok (.iload 5, 2) := by decide +kernel
theorem dX8_isAccepted_111 : decode cX8_isAccepted 111 = .ok (.iload 6, 2) := by decide +kernel
theorem dX8_isAccepted_113 : decode cX8_isAccepted 113 = .ok (.if_icmp .eq 7, 3) := by decide +kernel
theorem dX8_isAccepted_116 : decode cX8_isAccepted 116 = .ok (.iconst 1, 1) := by decide +kernel
theorem dX8_isAccepted_117 : decode cX8_isAccepted 117 = .ok (.goto 4, 3) := by decide +kernel
theorem dX8_isAccepted_120 : decode cX8_isAccepted 120 = .ok (.iconst 0, 1) := by decide +kernel
theorem dX8_isAccepted_121 : decode cX8_isAccepted 121 = .ok (.ireturn, 1) := by decide +kernel
theorem dX8_areAlike_0 : decode cX8_areAlike 0 = .ok (.aload_n 0, 1) := by decide +kernel
theorem dX8_areAlike_1 : decode cX8_areAlike 1 = .ok (.getfield 90, 3) := by decide +kernel
theorem dX8_areAlike_4 : decode cX8_areAlike 4 = .ok (.iload_n 1, 1) := by decide +kernel
theorem dX8_areAlike_5 : decode cX8_areAlike 5 = .ok (.iaload, 1) := by decide +kernel
theorem dX8_areAlike_6 : decode cX8_areAlike 6 = .ok (.aload_n 0, 1) := by decide +kernel
theorem dX8_areAlike_7 : decode cX8_areAlike 7 = .ok (.getfield 90, 3) := by decide +kernel
theorem dX8_areAlike_10 : decode cX8_areAlike 10 = .ok (.iload_n 2, 1) := by decide +kernel
theorem dX8_areAlike_11 : decode cX8_areAlike 11 = .ok (.iaload, 1) := by decide +kernel
theorem dX8_areAlike_12 : decode cX8_areAlike 12 = .ok (.if_icmp .ne 7, 3) := by decide +kernel
theorem dX8_areAlike_15 : decode cX8_areAlike 15 = .ok (.iconst 1, 1) := by decide +kernel
theorem dX8_areAlike_16 : decode cX8_areAlike 16 = .ok (.goto 4, 3) := by decide +kernel
theorem dX8_areAlike_19 : decode cX8_areAlike 19 = .ok (.iconst 0, 1) := by decide +kernel
theorem dX8_areAlike_20 : decode cX8_areAlike 20 = .ok (.istore_n 3, 1) := by decide +kernel
theorem dX8_areAlike_21 : decode cX8_areAlike 21 = .ok (.iconst 0, 1) := by decide +kernel
theorem dX8_areAlike_22 : decode cX8_areAlike 22 = .ok (.istore 4, 2) := by decide +kernel
theorem dX8_areAlike_24 : decode cX8_areAlike 24 = .ok (.iload 4, 2) := by decide +kernel
theorem dX8_areAlike_26 : decode cX8_areAlike 26 = .ok (.bipush 8, 2) := by decide +kernel
theorem dX8_areAlike_28 : decode cX8_areAlike 28 = .ok (.if_icmp .ge 84, 3) := by decide +kernel
theorem dX8_areAlike_31 : decode cX8_areAlike 31 = .ok (.iload_n 3, 1) := by decide +kernel
theorem dX8_areAlike_32 : decode cX8_areAlike 32 = .ok (.ifCond .eq 80, 3) := by decide +kernel
theorem dX8_areAlike_35 : decode cX8_areAlike 35 = .ok (.aload_n 0, 1) := by decide +kernel
theorem dX8_areAlike_36 : decode cX8_areAlike 36 = .ok (.getfield 81, 3) := by decide +kernel
theorem dX8_areAlike_39 : decode cX8_areAlike 39 = .ok (.bipush 8, 2) := by decide +kernel
theorem dX8_areAlike_41 : decode cX8_areAlike 41 = .ok (.iload_n 1, 1) := by decide +kernel
theorem dX8_areAlike_42 : decode cX8_areAlike 42 = .ok (.imul, 1) := by decide +kernel
theorem dX8_areAlike_43 : decode cX8_areAlike 43 = .ok (.iload 4, 2) := by decide +kernel
theorem dX8_areAlike_45 : decode cX8_areAlike 45 = .ok (.iadd, 1) := by decide +kernel
theorem dX8_areAlike_46 : decode cX8_areAlike 46 = .ok (.iaload, 1) := by decide +kernel
theorem dX8_areAlike_47 : decode cX8_areAlike 47 = .ok (.istore 5, 2) := by decide +kernel
theorem dX8_areAlike_49 : decode cX8_areAlike 49 = .ok (.aload_n 0, 1) := by decide +kernel
theorem dX8_areAlike_50 : decode cX8_areAlike 50 = .ok (.getfield 81, 3) := by decide +kernel
theorem dX8_areAlike_53 : decode cX8_areAlike 53 = .ok (.bipush 8, 2) := by decide +kernel
theorem dX8_areAlike_55 : decode cX8_areAlike 55 = .ok (.iload_n 2, 1) := by decide +kernel
theorem dX8_areAlike_56 : decode cX8_areAlike 56 = .ok (.imul, 1) := by decide +kernel
theorem dX8_areAlike_57 : decode cX8_areAlike 57 = .ok (.iload 4, 2) := by decide +kernel
theorem dX8_areAlike_59 : decode cX8_areAlike 59 = .ok (.iadd, 1) := by decide +kernel
theorem dX8_areAlike_60 : decode cX8_areAlike 60 = .ok (.iaload, 1) := by decide +kernel
theorem dX8_areAlike_61 : decode cX8_areAlike 61 = .ok (.istore 6, 2) := by decide +kernel
theorem dX8_areAlike_63 : decode cX8_areAlike 63 = .ok (.iload 5, 2) := by decide +kernel
theorem dX8_areAlike_65 : decode cX8_areAlike 65 = .ok (.iconst (-1), 1) := by decide +kernel
theorem dX8_areAlike_66 : decode cX8_areAlike 66 = .ok (.if_icmp .ne 7, 3) := by decide +kernel
theorem dX8_areAlike_69 : decode cX8_areAlike 69 = .ok (.iconst (-1), 1) := by decide +kernel
theorem dX8_areAlike_70 : decode cX8_areAlike 70 = .ok (.goto 10, 3) := by decide +kernel
theorem dX8_areAlike_73 : decode cX8_areAlike 73 = .ok (.aload_n 0, 1) := by decide +kernel
theorem dX8_areAlike_74 : decode cX8_areAlike 74 = .ok (.getfield 90, 3) := by decide +kernel
theorem dX8_areAlike_77 : decode cX8_areAlike 77 = .ok (.iload 5, 2) := by decide +kernel
theorem dX8_areAlike_79 : decode cX8_areAlike 79 = .ok (.iaload, 1) := by decide +kernel
theorem dX8_areAlike_80 : decode cX8_areAlike 80 = .ok (.iload 6, 2) := by decide +kernel
theorem dX8_areAlike_82 : decode cX8_areAlike 82 = .ok (.iconst (-1), 1) := by decide +kernel
theorem dX8_areAlike_83 : decode cX8_areAlike 83 = .ok (.if_icmp .ne 7, 3) := by decide +kernel
theorem dX8_areAlike_86 : decode cX8_areAlike 86 = .ok (.iconst (-1), 1) := by decide +kernel
theorem dX8_areAlike_87 : decode cX8_areAlike 87 = .ok (.goto 10, 3) := by decide +kernel
theorem dX8_areAlike_90 : decode cX8_areAlike 90 = .ok (.aload_n 0, 1) := by decide +kernel
theorem dX8_areAlike_91 : decode cX8_areAlike 91 = .ok (.getfield 90, 3) := by decide +kernel
theorem dX8_areAlike_94 : decode cX8_areAlike 94 = .ok (.iload 6, 2) := by decide +kernel
theorem dX8_areAlike_96 : decode cX8_areAlike 96 = .ok (.iaload, 1) := by decide +kernel
theorem dX8_areAlike_97 : decode cX8_areAlike 97 = .ok (.if_icmp .ne 7, 3) := by decide +kernel
theorem dX8_areAlike_100 : decode cX8_areAlike 100 = .ok (.iconst 1, 1) := by decide +kernel
theorem dX8_areAlike_101 : decode cX8_areAlike 101 = .ok (.goto 4, 3) := by decide +kernel
theorem dX8_areAlike_104 : decode cX8_areAlike 104 = .ok (.iconst 0, 1) := by decide +kernel
theorem dX8_areAlike_105 : decode cX8_areAlike 105 = .ok (.istore_n 3, 1) := by decide +kernel
theorem dX8_areAlike_106 : decode cX8_areAlike 106 = .ok (.iinc 4 1, 3) := by decide +kernel
theorem dX8_areAlike_109 : decode cX8_areAlike 109 = .ok (.goto (-85), 3) := by decide +kernel
theorem dX8_areAlike_112 : decode cX8_areAlike 112 = .ok (.iload_n 3, 1) := by decide +kernel
theorem dX8_areAlike_113 : decode cX8_areAlike 113 = .ok (.ireturn, 1) := by decide +kernel
set_option maxRecDepth 20000 in
theorem ggX8_sorts_X8_areAlike : GoodIn wsX8_sorts wsX8_areAlike := goodIn_g _ [(8, 1), (3, 1), (9, 48)] (by exact rfl) (by decide +kernel)
set_option maxRecDepth 20000 in
theorem gX8_sorts_X8_areAlike : GoodIn wsX8_sorts (wsV RX8 247 RX8 yX8_areAlike wsX8_areAlike) := goodIn_app (goodIn_of _ (by decide +kernel)) ggX8_sorts_X8_areAlike
theorem dX8_sorts_0 : decode cX8_sorts 0 = .ok (.iconst 0, 1) := by decide +kernel
theorem dX8_sorts_1 : decode cX8_sorts 1 = .ok (.istore_n 1, 1) := by decide +kernel
theorem dX8_sorts_2 : decode cX8_sorts 2 = .ok (.iconst 0, 1) := by decide +kernel
theorem dX8_sorts_3 : decode cX8_sorts 3 = .ok (.istore_n 2, 1) := by decide +kernel
theorem dX8_sorts_4 : decode cX8_sorts 4 = .ok (.iload_n 2, 1) := by decide +kernel
theorem dX8_sorts_5 : decode cX8_sorts 5 = .ok (.aload_n 0, 1) := by decide +kernel
theorem dX8_sorts_6 : decode cX8_sorts 6 = .ok (.getfield 233, 3) := by decide +kernel
theorem dX8_sorts_9 : decode cX8_sorts 9 = .ok (.if_icmp .ge 84, 3) := by decide +kernel
theorem dX8_sorts_12 : decode cX8_sorts 12 = .ok (.aload_n 0, 1) := by decide +kernel
theorem dX8_sorts_13 : decode cX8_sorts 13 = .ok (.getfield 93, 3) := by decide +kernel
theorem dX8_sorts_16 : decode cX8_sorts 16 = .ok (.iload_n 2, 1) := by decide +kernel
theorem dX8_sorts_17 : decode cX8_sorts 17 = .ok (.iconst (-1), 1) := by decide +kernel
theorem dX8_sorts_18 : decode cX8_sorts 18 = .ok (.iastore, 1) := by decide +kernel
theorem dX8_sorts_19 : decode cX8_sorts 19 = .ok (.iconst 0, 1) := by decide +kernel
theorem dX8_sorts_20 : decode cX8_sorts 20 = .ok (.istore_n 3, 1) := by decide +kernel
theorem dX8_sorts_21 : decode cX8_sorts 21 = .ok (.iload_n 3, 1) := by decide +kernel
theorem dX8_sorts_22 : decode cX8_sorts 22 = .ok (.iload_n 2, 1) := by decide +kernel
theorem dX8_sorts_23 : decode cX8_sorts 23 = .ok (.if_icmp .ge 44, 3) := by decide +kernel
theorem dX8_sorts_26 : decode cX8_sorts 26 = .ok (.aload_n 0, 1) := by decide +kernel
theorem dX8_sorts_27 : decode cX8_sorts 27 = .ok (.getfield 93, 3) := by decide +kernel
theorem dX8_sorts_30 : decode cX8_sorts 30 = .ok (.iload_n 2, 1) := by decide +kernel
theorem dX8_sorts_31 : decode cX8_sorts 31 = .ok (.iaload, 1) := by decide +kernel
theorem dX8_sorts_32 : decode cX8_sorts 32 = .ok (.iconst (-1), 1) := by decide +kernel
theorem dX8_sorts_33 : decode cX8_sorts 33 = .ok (.if_icmp .ne 34, 3) := by decide +kernel
theorem dX8_sorts_36 : decode cX8_sorts 36 = .ok (.aload_n 0, 1) := by decide +kernel
theorem dX8_sorts_37 : decode cX8_sorts 37 = .ok (.getfield 93, 3) := by decide +kernel
theorem dX8_sorts_40 : decode cX8_sorts 40 = .ok (.iload_n 2, 1) := by decide +kernel
theorem dX8_sorts_41 : decode cX8_sorts 41 = .ok (.aload_n 0, 1) := by decide +kernel
theorem dX8_sorts_42 : decode cX8_sorts 42 = .ok (.iload_n 3, 1) := by decide +kernel
theorem dX8_sorts_43 : decode cX8_sorts 43 = .ok (.iload_n 2, 1) := by decide +kernel
theorem dX8_sorts_44 : decode cX8_sorts 44 = .ok (.invokevirtual 247, 3) := by decide +kernel
theorem dX8_sorts_47 : decode cX8_sorts 47 = .ok (.ifCond .eq 12, 3) := by decide +kernel
theorem dX8_sorts_50 : decode cX8_sorts 50 = .ok (.aload_n 0, 1) := by decide +kernel
theorem dX8_sorts_51 : decode cX8_sorts 51 = .ok (.getfield 93, 3) := by decide +kernel
theorem dX8_sorts_54 : decode cX8_sorts 54 = .ok (.iload_n 3, 1) := by decide +kernel
theorem dX8_sorts_55 : decode cX8_sorts 55 = .ok (.iaload, 1) := by decide +kernel
theorem dX8_sorts_56 : decode cX8_sorts 56 = .ok (.goto 4, 3) := by decide +kernel
theorem dX8_sorts_59 : decode cX8_sorts 59 = .ok (.iconst (-1), 1) := by decide +kernel
theorem dX8_sorts_60 : decode cX8_sorts 60 = .ok (.iastore, 1) := by decide +kernel
theorem dX8_sorts_61 : decode cX8_sorts 61 = .ok (.iinc 3 1, 3) := by decide +kernel
theorem dX8_sorts_64 : decode cX8_sorts 64 = .ok (.goto (-43), 3) := by decide +kernel
theorem dX8_sorts_67 : decode cX8_sorts 67 = .ok (.aload_n 0, 1) := by decide +kernel
theorem dX8_sorts_68 : decode cX8_sorts 68 = .ok (.getfield 93, 3) := by decide +kernel
theorem dX8_sorts_71 : decode cX8_sorts 71 = .ok (.iload_n 2, 1) := by decide +kernel
theorem dX8_sorts_72 : decode cX8_sorts 72 = .ok (.iaload, 1) := by decide +kernel
theorem dX8_sorts_73 : decode cX8_sorts 73 = .ok (.iconst (-1), 1) := by decide +kernel
theorem dX8_sorts_74 : decode cX8_sorts 74 = .ok (.if_icmp .ne 13, 3) := by decide +kernel
theorem dX8_sorts_77 : decode cX8_sorts 77 = .ok (.aload_n 0, 1) := by decide +kernel
theorem dX8_sorts_78 : decode cX8_sorts 78 = .ok (.getfield 93, 3) := by decide +kernel
theorem dX8_sorts_81 : decode cX8_sorts 81 = .ok (.iload_n 2, 1) := by decide +kernel
theorem dX8_sorts_82 : decode cX8_sorts 82 = .ok (.iload_n 1, 1) := by decide +kernel
theorem dX8_sorts_83 : decode cX8_sorts 83 = .ok (.iastore, 1) := by decide +kernel
theorem dX8_sorts_84 : decode cX8_sorts 84 = .ok (.iinc 1 1, 3) := by decide +kernel
theorem dX8_sorts_87 : decode cX8_sorts 87 = .ok (.iinc 2 1, 3) := by decide +kernel
theorem dX8_sorts_90 : decode cX8_sorts 90 = .ok (.goto (-86), 3) := by decide +kernel
theorem dX8_sorts_93 : decode cX8_sorts 93 = .ok (.iconst 0, 1) := by decide +kernel
theorem dX8_sorts_94 : decode cX8_sorts 94 = .ok (.istore_n 2, 1) := by decide +kernel
theorem dX8_sorts_95 : decode cX8_sorts 95 = .ok (.iload_n 2, 1) := by decide +kernel
theorem dX8_sorts_96 : decode cX8_sorts 96 = .ok (.aload_n 0, 1) := by decide +kernel
theorem dX8_sorts_97 : decode cX8_sorts 97 = .ok (.getfield 233, 3) := by decide +kernel
theorem dX8_sorts_100 : decode cX8_sorts 100 = .ok (.if_icmp .ge 21, 3) := by decide +kernel
theorem dX8_sorts_103 : decode cX8_sorts 103 = .ok (.aload_n 0, 1) := by decide +kernel
theorem dX8_sorts_104 : decode cX8_sorts 104 = .ok (.getfield 90, 3) := by decide +kernel
theorem dX8_sorts_107 : decode cX8_sorts 107 = .ok (.iload_n 2, 1) := by decide +kernel
theorem dX8_sorts_108 : decode cX8_sorts 108 = .ok (.aload_n 0, 1) := by decide +kernel
theorem dX8_sorts_109 : decode cX8_sorts 109 = .ok (.getfield 93, 3) := by decide +kernel
theorem dX8_sorts_112 : decode cX8_sorts 112 = .ok (.iload_n 2, 1) := by decide +kernel
theorem dX8_sorts_113 : decode cX8_sorts 113 = .ok (.iaload, 1) := by decide +kernel
theorem dX8_sorts_114 : decode cX8_sorts 114 = .ok (.iastore, 1) := by decide +kernel
theorem dX8_sorts_115 : decode cX8_sorts 115 = .ok (.iinc 2 1, 3) := by decide +kernel
theorem dX8_sorts_118 : decode cX8_sorts 118 = .ok (.goto (-23), 3) := by decide +kernel
theorem dX8_sorts_121 : decode cX8_sorts 121 = .ok (.iload_n 1, 1) := by decide +kernel
theorem dX8_sorts_122 : decode cX8_sorts 122 = .ok (.ireturn, 1) := by decide +kernel
theorem dX8_prunes_0 : decode cX8_prunes 0 = .ok (.iconst 1, 1) := by decide +kernel
theorem dX8_prunes_1 : decode cX8_prunes 1 = .ok (.istore_n 1, 1) := by decide +kernel
theorem dX8_prunes_2 : decode cX8_prunes 2 = .ok (.iconst 0, 1) := by decide +kernel
theorem dX8_prunes_3 : decode cX8_prunes 3 = .ok (.istore_n 2, 1) := by decide +kernel
theorem dX8_prunes_4 : decode cX8_prunes 4 = .ok (.iload_n 2, 1) := by decide +kernel
theorem dX8_prunes_5 : decode cX8_prunes 5 = .ok (.aload_n 0, 1) := by decide +kernel
theorem dX8_prunes_6 : decode cX8_prunes 6 = .ok (.getfield 233, 3) := by decide +kernel
theorem dX8_prunes_9 : decode cX8_prunes 9 = .ok (.if_icmp .ge 21, 3) := by decide +kernel
theorem dX8_prunes_12 : decode cX8_prunes 12 = .ok (.aload_n 0, 1) := by decide +kernel
theorem dX8_prunes_13 : decode cX8_prunes 13 = .ok (.getfield 93, 3) := by decide +kernel
theorem dX8_prunes_16 : decode cX8_prunes 16 = .ok (.iload_n 2, 1) := by decide +kernel
theorem dX8_prunes_17 : decode cX8_prunes 17 = .ok (.aload_n 0, 1) := by decide +kernel
theorem dX8_prunes_18 : decode cX8_prunes 18 = .ok (.getfield 90, 3) := by decide +kernel
theorem dX8_prunes_21 : decode cX8_prunes 21 = .ok (.iload_n 2, 1) := by decide +kernel
theorem dX8_prunes_22 : decode cX8_prunes 22 = .ok (.iaload, 1) := by decide +kernel
theorem dX8_prunes_23 : decode cX8_prunes 23 = .ok (.iastore, 1) := by decide +kernel
theorem dX8_prunes_24 : decode cX8_prunes 24 = .ok (.iinc 2 1, 3) := by decide +kernel
theorem dX8_prunes_27 : decode cX8_prunes 27 = .ok (.goto (-23), 3) := by decide +kernel
theorem dX8_prunes_30 : decode cX8_prunes 30 = .ok (.iload_n 1, 1) := by decide +kernel
theorem dX8_prunes_31 : decode cX8_prunes 31 = .ok (.ifCond .eq 110, 3) := by decide +kernel
theorem dX8_prunes_34 : decode cX8_prunes 34 = .ok (.iconst 0, 1) := by decide +kernel
theorem dX8_prunes_35 : decode cX8_prunes 35 = .ok (.istore_n 1, 1) := by decide +kernel
theorem dX8_prunes_36 : decode cX8_prunes 36 = .ok (.iconst 0, 1) := by decide +kernel
theorem dX8_prunes_37 : decode cX8_prunes 37 = .ok (.istore_n 2, 1) := by decide +kernel
theorem dX8_prunes_38 : decode cX8_prunes 38 = .ok (.iload_n 2, 1) := by decide +kernel
theorem dX8_prunes_39 : decode cX8_prunes 39 = .ok (.bipush 8, 2) := by decide +kernel
theorem dX8_prunes_41 : decode cX8_prunes 41 = .ok (.aload_n 0, 1) := by decide +kernel
theorem dX8_prunes_42 : decode cX8_prunes 42 = .ok (.getfield 233, 3) := by decide +kernel
theorem dX8_prunes_45 : decode cX8_prunes 45 = .ok (.imul, 1) := by decide +kernel
theorem dX8_prunes_46 : decode cX8_prunes 46 = .ok (.if_icmp .ge 92, 3) := by decide +kernel
theorem dX8_prunes_49 : decode cX8_prunes 49 = .ok (.aload_n 0, 1) := by decide +kernel
theorem dX8_prunes_50 : decode cX8_prunes 50 = .ok (.getfield 81, 3) := by decide +kernel
theorem dX8_prunes_53 : decode cX8_prunes 53 = .ok (.iload_n 2, 1) := by decide +kernel
theorem dX8_prunes_54 : decode cX8_prunes 54 = .ok (.iaload, 1) := by decide +kernel
theorem dX8_prunes_55 : decode cX8_prunes 55 = .ok (.iconst (-1), 1) := by decide +kernel
theorem dX8_prunes_56 : decode cX8_prunes 56 = .ok (.if_icmp .eq 34, 3) := by decide +kernel
theorem dX8_prunes_59 : decode cX8_prunes 59 = .ok (.aload_n 0, 1) := by decide +kernel
theorem dX8_prunes_60 : decode cX8_prunes 60 = .ok (.getfield 93, 3) := by decide +kernel
theorem dX8_prunes_63 : decode cX8_prunes 63 = .ok (.aload_n 0, 1) := by decide +kernel
theorem dX8_prunes_64 : decode cX8_prunes 64 = .ok (.getfield 81, 3) := by decide +kernel
theorem dX8_prunes_67 : decode cX8_prunes 67 = .ok (.iload_n 2, 1) := by decide +kernel
theorem dX8_prunes_68 : decode cX8_prunes 68 = .ok (.iaload, 1) := by decide +kernel
theorem dX8_prunes_69 : decode cX8_prunes 69 = .ok (.iaload, 1) := by decide +kernel
theorem dX8_prunes_70 : decode cX8_prunes 70 = .ok (.iconst 1, 1) := by decide +kernel
theorem dX8_prunes_71 : decode cX8_prunes 71 = .ok (.if_icmp .ne 19, 3) := by decide +kernel
theorem dX8_prunes_74 : decode cX8_prunes 74 = .ok (.aload_n 0, 1) := by decide +kernel
theorem dX8_prunes_75 : decode cX8_prunes 75 = .ok (.getfield 93, 3) := by decide +kernel
theorem dX8_prunes_78 : decode cX8_prunes 78 = .ok (.iload_n 2, 1) := by decide +kernel
theorem dX8_prunes_79 : decode cX8_prunes 79 = .ok (.bipush 8, 2) := by decide +kernel
theorem dX8_prunes_81 : decode cX8_prunes 81 = .ok (.idiv, 1) := by decide +kernel
theorem dX8_prunes_82 : decode cX8_prunes 82 = .ok (.iaload, 1) := by decide +kernel
theorem dX8_prunes_83 : decode cX8_prunes 83 = .ok (.ifCond .ne 7, 3) := by decide +kernel
theorem dX8_prunes_86 : decode cX8_prunes 86 = .ok (.iconst 1, 1) := by decide +kernel
theorem dX8_prunes_87 : decode cX8_prunes 87 = .ok (.goto 4, 3) := by decide +kernel
theorem dX8_prunes_90 : decode cX8_prunes 90 = .ok (.iconst 0, 1) := by decide +kernel
theorem dX8_prunes_91 : decode cX8_prunes 91 = .ok (.istore_n 3, 1) := by decide +kernel
theorem dX8_prunes_92 : decode cX8_prunes 92 = .ok (.aload_n 0, 1) := by decide +kernel
theorem dX8_prunes_93 : decode cX8_prunes 93 = .ok (.getfield 93, 3) := by decide +kernel
theorem dX8_prunes_96 : decode cX8_prunes 96 = .ok (.iload_n 2, 1) := by decide +kernel
theorem dX8_prunes_97 : decode cX8_prunes 97 = .ok (.bipush 8, 2) := by decide +kernel
theorem dX8_prunes_99 : decode cX8_prunes 99 = .ok (.idiv, 1) := by decide +kernel
theorem dX8_prunes_100 : decode cX8_prunes 100 = .ok (.iload_n 3, 1) := by decide +kernel
theorem dX8_prunes_101 : decode cX8_prunes 101 = .ok (.ifCond .eq 7, 3) := by decide +kernel
theorem dX8_prunes_104 : decode cX8_prunes 104 = .ok (.iconst 1, 1) := by decide +kernel
theorem dX8_prunes_105 : decode cX8_prunes 105 = .ok (.goto 12, 3) := by decide +kernel
theorem dX8_prunes_108 : decode cX8_prunes 108 = .ok (.aload_n 0, 1) := by decide +kernel
theorem dX8_prunes_109 : decode cX8_prunes 109 = .ok (.getfield 93, 3) := by decide +kernel
theorem dX8_prunes_112 : decode cX8_prunes 112 = .ok (.iload_n 2, 1) := by decide +kernel
theorem dX8_prunes_113 : decode cX8_prunes 113 = .ok (.bipush 8, 2) := by decide +kernel
theorem dX8_prunes_115 : decode cX8_prunes 115 = .ok (.idiv, 1) := by decide +kernel
theorem dX8_prunes_116 : decode cX8_prunes 116 = .ok (.iaload, 1) := by decide +kernel
theorem dX8_prunes_117 : decode cX8_prunes 117 = .ok (.iastore, 1) := by decide +kernel
theorem dX8_prunes_118 : decode cX8_prunes 118 = .ok (.iload_n 1, 1) := by decide +kernel
theorem dX8_prunes_119 : decode cX8_prunes 119 = .ok (.ifCond .ne 7, 3) := by decide +kernel
theorem dX8_prunes_122 : decode cX8_prunes 122 = .ok (.iload_n 3, 1) := by decide +kernel
theorem dX8_prunes_123 : decode cX8_prunes 123 = .ok (.ifCond .eq 7, 3) := by decide +kernel
theorem dX8_prunes_126 : decode cX8_prunes 126 = .ok (.iconst 1, 1) := by decide +kernel
theorem dX8_prunes_127 : decode cX8_prunes 127 = .ok (.goto 4, 3) := by decide +kernel
theorem dX8_prunes_130 : decode cX8_prunes 130 = .ok (.iconst 0, 1) := by decide +kernel
theorem dX8_prunes_131 : decode cX8_prunes 131 = .ok (.istore_n 1, 1) := by decide +kernel
theorem dX8_prunes_132 : decode cX8_prunes 132 = .ok (.iinc 2 1, 3) := by decide +kernel
theorem dX8_prunes_135 : decode cX8_prunes 135 = .ok (.goto (-97), 3) := by decide +kernel
theorem dX8_prunes_138 : decode cX8_prunes 138 = .ok (.goto (-108), 3) := by decide +kernel
theorem dX8_prunes_141 : decode cX8_prunes 141 = .ok (.iconst 0, 1) := by decide +kernel
theorem dX8_prunes_142 : decode cX8_prunes 142 = .ok (.istore_n 2, 1) := by decide +kernel
theorem dX8_prunes_143 : decode cX8_prunes 143 = .ok (.iload_n 2, 1) := by decide +kernel
theorem dX8_prunes_144 : decode cX8_prunes 144 = .ok (.bipush 8, 2) := by decide +kernel
theorem dX8_prunes_146 : decode cX8_prunes 146 = .ok (.aload_n 0, 1) := by decide +kernel
theorem dX8_prunes_147 : decode cX8_prunes 147 = .ok (.getfield 233, 3) := by decide +kernel
theorem dX8_prunes_150 : decode cX8_prunes 150 = .ok (.imul, 1) := by decide +kernel
theorem dX8_prunes_151 : decode cX8_prunes 151 = .ok (.if_icmp .ge 50, 3) := by decide +kernel
theorem dX8_prunes_154 : decode cX8_prunes 154 = .ok (.aload_n 0, 1) := by decide +kernel
theorem dX8_prunes_155 : decode cX8_prunes 155 = .ok (.getfield 81, 3) := by decide +kernel
theorem dX8_prunes_158 : decode cX8_prunes 158 = .ok (.iload_n 2, 1) := by decide +kernel
theorem dX8_prunes_159 : decode cX8_prunes 159 = .ok (.aload_n 0, 1) := by decide +kernel
theorem dX8_prunes_160 : decode cX8_prunes 160 = .ok (.getfield 81, 3) := by decide +kernel
theorem dX8_prunes_163 : decode cX8_prunes 163 = .ok (.iload_n 2, 1) := by decide +kernel
theorem dX8_prunes_164 : decode cX8_prunes 164 = .ok (.iaload, 1) := by decide +kernel
theorem dX8_prunes_165 : decode cX8_prunes 165 = .ok (.iconst (-1), 1) := by decide +kernel
theorem dX8_prunes_166 : decode cX8_prunes 166 = .ok (.if_icmp .eq 27, 3) := by decide +kernel
theorem dX8_prunes_169 : decode cX8_prunes 169 = .ok (.aload_n 0, 1) := by decide +kernel
theorem dX8_prunes_170 : decode cX8_prunes 170 = .ok (.getfield 93, 3) := by decide +kernel
theorem dX8_prunes_173 : decode cX8_prunes 173 = .ok (.aload_n 0, 1) := by decide +kernel
theorem dX8_prunes_174 : decode cX8_prunes 174 = .ok (.getfield 81, 3) := by decide +kernel
theorem dX8_prunes_177 : decode cX8_prunes 177 = .ok (.iload_n 2, 1) := by decide +kernel
theorem dX8_prunes_178 : decode cX8_prunes 178 = .ok (.iaload, 1) := by decide +kernel
theorem dX8_prunes_179 : decode cX8_prunes 179 = .ok (.iaload, 1) := by decide +kernel
theorem dX8_prunes_180 : decode cX8_prunes 180 = .ok (.iconst 1, 1) := by decide +kernel
theorem dX8_prunes_181 : decode cX8_prunes 181 = .ok (.if_icmp .ne 12, 3) := by decide +kernel
theorem dX8_prunes_184 : decode cX8_prunes 184 = .ok (.aload_n 0, 1) := by decide +kernel
theorem dX8_prunes_185 : decode cX8_prunes 185 = .ok (.getfield 81, 3) := by decide +kernel
theorem dX8_prunes_188 : decode cX8_prunes 188 = .ok (.iload_n 2, 1) := by decide +kernel
theorem dX8_prunes_189 : decode cX8_prunes 189 = .ok (.iaload, 1) := by decide +kernel
theorem dX8_prunes_190 : decode cX8_prunes 190 = .ok (.goto 4, 3) := by decide +kernel
theorem dX8_prunes_193 : decode cX8_prunes 193 = .ok (.iconst (-1), 1) := by decide +kernel
theorem dX8_prunes_194 : decode cX8_prunes 194 = .ok (.iastore, 1) := by decide +kernel
theorem dX8_prunes_195 : decode cX8_prunes 195 = .ok (.iinc 2 1, 3) := by decide +kernel
theorem dX8_prunes_198 : decode cX8_prunes 198 = .ok (.goto (-55), 3) := by decide +kernel
theorem dX8_prunes_201 : decode cX8_prunes 201 = .ok (.return_, 1) := by decide +kernel
set_option maxRecDepth 20000 in
theorem ggX8_makesLeast_X8_looks : GoodIn wsX8_makesLeast wsX8_looks := goodIn_g _ [(9, 1), (1, 1), (10, 2), (4, 1), (12, 3), (8, 1), (15, 18), (96, 47)] (by exact rfl) (by decide +kernel)
set_option maxRecDepth 20000 in
theorem gX8_makesLeast_X8_looks : GoodIn wsX8_makesLeast (wsV RX8 250 RX8 yX8_looks wsX8_looks) := goodIn_app (goodIn_of _ (by decide +kernel)) ggX8_makesLeast_X8_looks
set_option maxRecDepth 20000 in
theorem ggX8_makesLeast_X8_isAccepted : GoodIn wsX8_makesLeast wsX8_isAccepted := goodIn_g _ [(36, 1), (10, 1), (37, 1), (11, 1), (96, 47)] (by exact rfl) (by decide +kernel)
set_option maxRecDepth 20000 in
theorem gX8_makesLeast_X8_isAccepted : GoodIn wsX8_makesLeast (wsV RX8 253 RX8 yX8_isAccepted wsX8_isAccepted) := goodIn_app (goodIn_of _ (by decide +kernel)) ggX8_makesLeast_X8_isAccepted
set_option maxRecDepth 20000 in
theorem ggX8_makesLeast_X8_prunes : GoodIn wsX8_makesLeast wsX8_prunes := goodIn_g _ [(41, 1), (1, 1), (42, 1), (2, 1), (4, 1), (96, 47)] (by exact rfl) (by decide +kernel)
set_option maxRecDepth 20000 in
theorem gX8_makesLeast_X8_prunes : GoodIn wsX8_makesLeast (wsV RX8 257 RX8 yX8_prunes wsX8_prunes) := goodIn_app (goodIn_of _ (by decide +kernel)) ggX8_makesLeast_X8_prunes
set_option maxRecDepth 20000 in
theorem ggX8_makesLeast_X8_sorts : GoodIn wsX8_makesLeast wsX8_sorts := goodIn_g _ [(46, 1), (1, 1), (42, 1), (2, 1), (47, 3), (8, 1), (50, 1), (4, 1), (96, 47)] (by exact rfl) (by decide +kernel)
set_option maxRecDepth 20000 in
theorem gX8_makesLeast_X8_sorts : GoodIn wsX8_makesLeast (wsV RX8 260 RX8 yX8_sorts wsX8_sorts) := goodIn_app (goodIn_of _ (by decide +kernel)) ggX8_makesLeast_X8_sorts
set_option maxRecDepth 20000 in
theorem ggX8_makesLeast_X8_begins : GoodIn wsX8_makesLeast wsX8_begins := goodIn_g _ [(54, 2), (3, 1), (96, 47)] (by exact rfl) (by decide +kernel)
set_option maxRecDepth 20000 in
theorem gX8_makesLeast_X8_begins : GoodIn wsX8_makesLeast (wsV RX8 188 RX8 yX8_begins wsX8_begins) := goodIn_app (goodIn_of _ (by decide +kernel)) ggX8_makesLeast_X8_begins
set_option maxRecDepth 20000 in
theorem ggX8_makesLeast_X8_adds : GoodIn wsX8_makesLeast wsX8_adds := goodIn_g _ [(59, 2), (55, 1), (61, 1), (96, 47)] (by exact rfl) (by decide +kernel)
set_option maxRecDepth 20000 in
theorem gX8_makesLeast_X8_adds : GoodIn wsX8_makesLeast (wsV RX8 180 RX8 yX8_adds wsX8_adds) := goodIn_app (goodIn_of _ (by decide +kernel)) ggX8_makesLeast_X8_adds
set_option maxRecDepth 20000 in
theorem ggX8_makesLeast_X8_trims : GoodIn wsX8_makesLeast wsX8_trims := goodIn_g _ [(65, 6), (60, 1), (71, 4), (61, 1), (75, 2), (3, 1), (77, 3), (8, 1), (80, 2), (55, 1), (82, 61)] (by exact rfl) (by decide +kernel)
set_option maxRecDepth 20000 in
theorem gX8_makesLeast_X8_trims : GoodIn wsX8_makesLeast (wsV RX8 191 RX8 yX8_trims wsX8_trims) := goodIn_app (goodIn_of _ (by decide +kernel)) ggX8_makesLeast_X8_trims
theorem dX8_makesLeast_0 : decode cX8_makesLeast 0 = .ok (.aload_n 0, 1) := by decide +kernel
theorem dX8_makesLeast_1 : decode cX8_makesLeast 1 = .ok (.iload_n 1, 1) := by decide +kernel
theorem dX8_makesLeast_2 : decode cX8_makesLeast 2 = .ok (.iload_n 2, 1) := by decide +kernel
theorem dX8_makesLeast_3 : decode cX8_makesLeast 3 = .ok (.iload_n 3, 1) := by decide +kernel
theorem dX8_makesLeast_4 : decode cX8_makesLeast 4 = .ok (.invokevirtual 250, 3) := by decide +kernel
theorem dX8_makesLeast_7 : decode cX8_makesLeast 7 = .ok (.ifCond .ne 5, 3) := by decide +kernel
theorem dX8_makesLeast_10 : decode cX8_makesLeast 10 = .ok (.iconst 0, 1) := by decide +kernel
theorem dX8_makesLeast_11 : decode cX8_makesLeast 11 = .ok (.ireturn, 1) := by decide +kernel
theorem dX8_makesLeast_12 : decode cX8_makesLeast 12 = .ok (.iconst 0, 1) := by decide +kernel
theorem dX8_makesLeast_13 : decode cX8_makesLeast 13 = .ok (.istore 4, 2) := by decide +kernel
theorem dX8_makesLeast_15 : decode cX8_makesLeast 15 = .ok (.iload 4, 2) := by decide +kernel
theorem dX8_makesLeast_17 : decode cX8_makesLeast 17 = .ok (.aload_n 0, 1) := by decide +kernel
theorem dX8_makesLeast_18 : decode cX8_makesLeast 18 = .ok (.getfield 233, 3) := by decide +kernel
theorem dX8_makesLeast_21 : decode cX8_makesLeast 21 = .ok (.if_icmp .ge 33, 3) := by decide +kernel
theorem dX8_makesLeast_24 : decode cX8_makesLeast 24 = .ok (.aload_n 0, 1) := by decide +kernel
theorem dX8_makesLeast_25 : decode cX8_makesLeast 25 = .ok (.getfield 90, 3) := by decide +kernel
theorem dX8_makesLeast_28 : decode cX8_makesLeast 28 = .ok (.iload 4, 2) := by decide +kernel
theorem dX8_makesLeast_30 : decode cX8_makesLeast 30 = .ok (.aload_n 0, 1) := by decide +kernel
theorem dX8_makesLeast_31 : decode cX8_makesLeast 31 = .ok (.iload 4, 2) := by decide +kernel
theorem dX8_makesLeast_33 : decode cX8_makesLeast 33 = .ok (.iload_n 1, 1) := by decide +kernel
theorem dX8_makesLeast_34 : decode cX8_makesLeast 34 = .ok (.iload_n 2, 1) := by decide +kernel
theorem dX8_makesLeast_35 : decode cX8_makesLeast 35 = .ok (.iload_n 3, 1) := by decide +kernel
theorem dX8_makesLeast_36 : decode cX8_makesLeast 36 = .ok (.invokevirtual 253, 3) := by decide +kernel
theorem dX8_makesLeast_39 : decode cX8_makesLeast 39 = .ok (.ifCond .eq 7, 3) := by decide +kernel
theorem dX8_makesLeast_42 : decode cX8_makesLeast 42 = .ok (.iconst 1, 1) := by decide +kernel
theorem dX8_makesLeast_43 : decode cX8_makesLeast 43 = .ok (.goto 4, 3) := by decide +kernel
theorem dX8_makesLeast_46 : decode cX8_makesLeast 46 = .ok (.iconst 0, 1) := by decide +kernel
theorem dX8_makesLeast_47 : decode cX8_makesLeast 47 = .ok (.iastore, 1) := by decide +kernel
theorem dX8_makesLeast_48 : decode cX8_makesLeast 48 = .ok (.iinc 4 1, 3) := by decide +kernel
theorem dX8_makesLeast_51 : decode cX8_makesLeast 51 = .ok (.goto (-36), 3) := by decide +kernel
theorem dX8_makesLeast_54 : decode cX8_makesLeast 54 = .ok (.aload_n 0, 1) := by decide +kernel
theorem dX8_makesLeast_55 : decode cX8_makesLeast 55 = .ok (.invokevirtual 257, 3) := by decide +kernel
theorem dX8_makesLeast_58 : decode cX8_makesLeast 58 = .ok (.iconst 0, 1) := by decide +kernel
theorem dX8_makesLeast_59 : decode cX8_makesLeast 59 = .ok (.istore 4, 2) := by decide +kernel
theorem dX8_makesLeast_61 : decode cX8_makesLeast 61 = .ok (.aload_n 0, 1) := by decide +kernel
theorem dX8_makesLeast_62 : decode cX8_makesLeast 62 = .ok (.invokevirtual 260, 3) := by decide +kernel
theorem dX8_makesLeast_65 : decode cX8_makesLeast 65 = .ok (.istore 5, 2) := by decide +kernel
theorem dX8_makesLeast_67 : decode cX8_makesLeast 67 = .ok (.iload 5, 2) := by decide +kernel
theorem dX8_makesLeast_69 : decode cX8_makesLeast 69 = .ok (.iload 4, 2) := by decide +kernel
theorem dX8_makesLeast_71 : decode cX8_makesLeast 71 = .ok (.if_icmp .eq 16, 3) := by decide +kernel
theorem dX8_makesLeast_74 : decode cX8_makesLeast 74 = .ok (.iload 5, 2) := by decide +kernel
theorem dX8_makesLeast_76 : decode cX8_makesLeast 76 = .ok (.istore 4, 2) := by decide +kernel
theorem dX8_makesLeast_78 : decode cX8_makesLeast 78 = .ok (.aload_n 0, 1) := by decide +kernel
theorem dX8_makesLeast_79 : decode cX8_makesLeast 79 = .ok (.invokevirtual 260, 3) := by decide +kernel
theorem dX8_makesLeast_82 : decode cX8_makesLeast 82 = .ok (.istore 5, 2) := by decide +kernel
theorem dX8_makesLeast_84 : decode cX8_makesLeast 84 = .ok (.goto (-17), 3) := by decide +kernel
theorem dX8_makesLeast_87 : decode cX8_makesLeast 87 = .ok (.aload_n 0, 1) := by decide +kernel
theorem dX8_makesLeast_88 : decode cX8_makesLeast 88 = .ok (.invokevirtual 188, 3) := by decide +kernel
theorem dX8_makesLeast_91 : decode cX8_makesLeast 91 = .ok (.iconst 0, 1) := by decide +kernel
theorem dX8_makesLeast_92 : decode cX8_makesLeast 92 = .ok (.istore 6, 2) := by decide +kernel
theorem dX8_makesLeast_94 : decode cX8_makesLeast 94 = .ok (.iload 6, 2) := by decide +kernel
theorem dX8_makesLeast_96 : decode cX8_makesLeast 96 = .ok (.aload_n 0, 1) := by decide +kernel
theorem dX8_makesLeast_97 : decode cX8_makesLeast 97 = .ok (.getfield 233, 3) := by decide +kernel
theorem dX8_makesLeast_100 : decode cX8_makesLeast 100 = .ok (.if_icmp .ge 150, 3) := by decide +kernel
theorem dX8_makesLeast_103 : decode cX8_makesLeast 103 = .ok (.aload_n 0, 1) := by decide +kernel
theorem dX8_makesLeast_104 : decode cX8_makesLeast 104 = .ok (.getfield 44, 3) := by decide +kernel
theorem dX8_makesLeast_107 : decode cX8_makesLeast 107 = .ok (.aload_n 0, 1) := by decide +kernel
theorem dX8_makesLeast_108 : decode cX8_makesLeast 108 = .ok (.getfield 90, 3) := by decide +kernel
theorem dX8_makesLeast_111 : decode cX8_makesLeast 111 = .ok (.iload 6, 2) := by decide +kernel
theorem dX8_makesLeast_113 : decode cX8_makesLeast 113 = .ok (.iaload, 1) := by decide +kernel
theorem dX8_makesLeast_114 : decode cX8_makesLeast 114 = .ok (.aload_n 0, 1) := by decide +kernel
theorem dX8_makesLeast_115 : decode cX8_makesLeast 115 = .ok (.iload 6, 2) := by decide +kernel
theorem dX8_makesLeast_117 : decode cX8_makesLeast 117 = .ok (.iload_n 1, 1) := by decide +kernel
theorem dX8_makesLeast_118 : decode cX8_makesLeast 118 = .ok (.iload_n 2, 1) := by decide +kernel
theorem dX8_makesLeast_119 : decode cX8_makesLeast 119 = .ok (.iload_n 3, 1) := by decide +kernel
theorem dX8_makesLeast_120 : decode cX8_makesLeast 120 = .ok (.invokevirtual 253, 3) := by decide +kernel
theorem dX8_makesLeast_123 : decode cX8_makesLeast 123 = .ok (.bastore, 1) := by decide +kernel
theorem dX8_makesLeast_124 : decode cX8_makesLeast 124 = .ok (.iconst 1, 1) := by decide +kernel
theorem dX8_makesLeast_125 : decode cX8_makesLeast 125 = .ok (.istore 7, 2) := by decide +kernel
theorem dX8_makesLeast_127 : decode cX8_makesLeast 127 = .ok (.iconst 0, 1) := by decide +kernel
theorem dX8_makesLeast_128 : decode cX8_makesLeast 128 = .ok (.istore 8, 2) := by decide +kernel
theorem dX8_makesLeast_130 : decode cX8_makesLeast 130 = .ok (.iload 8, 2) := by decide +kernel
theorem dX8_makesLeast_132 : decode cX8_makesLeast 132 = .ok (.iload 6, 2) := by decide +kernel
theorem dX8_makesLeast_134 : decode cX8_makesLeast 134 = .ok (.if_icmp .ge 38, 3) := by decide +kernel
theorem dX8_makesLeast_137 : decode cX8_makesLeast 137 = .ok (.iload 7, 2) := by decide +kernel
theorem dX8_makesLeast_139 : decode cX8_makesLeast 139 = .ok (.ifCond .eq 24, 3) := by decide +kernel
theorem dX8_makesLeast_142 : decode cX8_makesLeast 142 = .ok (.aload_n 0, 1) := by decide +kernel
theorem dX8_makesLeast_143 : decode cX8_makesLeast 143 = .ok (.getfield 90, 3) := by decide +kernel
theorem dX8_makesLeast_146 : decode cX8_makesLeast 146 = .ok (.iload 8, 2) := by decide +kernel
theorem dX8_makesLeast_148 : decode cX8_makesLeast 148 = .ok (.iaload, 1) := by decide +kernel
theorem dX8_makesLeast_149 : decode cX8_makesLeast 149 = .ok (.aload_n 0, 1) := by decide +kernel
theorem dX8_makesLeast_150 : decode cX8_makesLeast 150 = .ok (.getfield 90, 3) := by decide +kernel
theorem dX8_makesLeast_153 : decode cX8_makesLeast 153 = .ok (.iload 6, 2) := by decide +kernel
theorem dX8_makesLeast_155 : decode cX8_makesLeast 155 = .ok (.iaload, 1) := by decide +kernel
theorem dX8_makesLeast_156 : decode cX8_makesLeast 156 = .ok (.if_icmp .eq 7, 3) := by decide +kernel
theorem dX8_makesLeast_159 : decode cX8_makesLeast 159 = .ok (.iconst 1, 1) := by decide +kernel
theorem dX8_makesLeast_160 : decode cX8_makesLeast 160 = .ok (.goto 4, 3) := by decide +kernel
theorem dX8_makesLeast_163 : decode cX8_makesLeast 163 = .ok (.iconst 0, 1) := by decide +kernel
theorem dX8_makesLeast_164 : decode cX8_makesLeast 164 = .ok (.istore 7, 2) := by decide +kernel
theorem dX8_makesLeast_166 : decode cX8_makesLeast 166 = .ok (.iinc 8 1, 3) := by decide +kernel
theorem dX8_makesLeast_169 : decode cX8_makesLeast 169 = .ok (.goto (-39), 3) := by decide +kernel
theorem dX8_makesLeast_172 : decode cX8_makesLeast 172 = .ok (.iconst 0, 1) := by decide +kernel
theorem dX8_makesLeast_173 : decode cX8_makesLeast 173 = .ok (.istore 8, 2) := by decide +kernel
theorem dX8_makesLeast_175 : decode cX8_makesLeast 175 = .ok (.iload 8, 2) := by decide +kernel
theorem dX8_makesLeast_177 : decode cX8_makesLeast 177 = .ok (.bipush 8, 2) := by decide +kernel
theorem dX8_makesLeast_179 : decode cX8_makesLeast 179 = .ok (.if_icmp .ge 65, 3) := by decide +kernel
theorem dX8_makesLeast_182 : decode cX8_makesLeast 182 = .ok (.iload 7, 2) := by decide +kernel
theorem dX8_makesLeast_184 : decode cX8_makesLeast 184 = .ok (.ifCond .eq 60, 3) := by decide +kernel
theorem dX8_makesLeast_187 : decode cX8_makesLeast 187 = .ok (.aload_n 0, 1) := by decide +kernel
theorem dX8_makesLeast_188 : decode cX8_makesLeast 188 = .ok (.getfield 81, 3) := by decide +kernel
theorem dX8_makesLeast_191 : decode cX8_makesLeast 191 = .ok (.bipush 8, 2) := by decide +kernel
theorem dX8_makesLeast_193 : decode cX8_makesLeast 193 = .ok (.iload 6, 2) := by decide +kernel
theorem dX8_makesLeast_195 : decode cX8_makesLeast 195 = .ok (.imul, 1) := by decide +kernel
theorem dX8_makesLeast_196 : decode cX8_makesLeast 196 = .ok (.iload 8, 2) := by decide +kernel
theorem dX8_makesLeast_198 : decode cX8_makesLeast 198 = .ok (.iadd, 1) := by decide +kernel
theorem dX8_makesLeast_199 : decode cX8_makesLeast 199 = .ok (.iaload, 1) := by decide +kernel
theorem dX8_makesLeast_200 : decode cX8_makesLeast 200 = .ok (.iconst (-1), 1) := by decide +kernel
theorem dX8_makesLeast_201 : decode cX8_makesLeast 201 = .ok (.if_icmp .eq 37, 3) := by decide +kernel
theorem dX8_makesLeast_204 : decode cX8_makesLeast 204 = .ok (.aload_n 0, 1) := by decide +kernel
theorem dX8_makesLeast_205 : decode cX8_makesLeast 205 = .ok (.aload_n 0, 1) := by decide +kernel
theorem dX8_makesLeast_206 : decode cX8_makesLeast 206 = .ok (.getfield 90, 3) := by decide +kernel
theorem dX8_makesLeast_209 : decode cX8_makesLeast 209 = .ok (.iload 6, 2) := by decide +kernel
theorem dX8_makesLeast_211 : decode cX8_makesLeast 211 = .ok (.iaload, 1) := by decide +kernel
theorem dX8_makesLeast_212 : decode cX8_makesLeast 212 = .ok (.iload 8, 2) := by decide +kernel
theorem dX8_makesLeast_214 : decode cX8_makesLeast 214 = .ok (.iload 8, 2) := by decide +kernel
theorem dX8_makesLeast_216 : decode cX8_makesLeast 216 = .ok (.iconst 0, 1) := by decide +kernel
theorem dX8_makesLeast_217 : decode cX8_makesLeast 217 = .ok (.aload_n 0, 1) := by decide +kernel
theorem dX8_makesLeast_218 : decode cX8_makesLeast 218 = .ok (.getfield 90, 3) := by decide +kernel
theorem dX8_makesLeast_221 : decode cX8_makesLeast 221 = .ok (.aload_n 0, 1) := by decide +kernel
theorem dX8_makesLeast_222 : decode cX8_makesLeast 222 = .ok (.getfield 81, 3) := by decide +kernel
theorem dX8_makesLeast_225 : decode cX8_makesLeast 225 = .ok (.bipush 8, 2) := by decide +kernel
theorem dX8_makesLeast_227 : decode cX8_makesLeast 227 = .ok (.iload 6, 2) := by decide +kernel
theorem dX8_makesLeast_229 : decode cX8_makesLeast 229 = .ok (.imul, 1) := by decide +kernel
theorem dX8_makesLeast_230 : decode cX8_makesLeast 230 = .ok (.iload 8, 2) := by decide +kernel
theorem dX8_makesLeast_232 : decode cX8_makesLeast 232 = .ok (.iadd, 1) := by decide +kernel
theorem dX8_makesLeast_233 : decode cX8_makesLeast 233 = .ok (.iaload, 1) := by decide +kernel
theorem dX8_makesLeast_234 : decode cX8_makesLeast 234 = .ok (.iaload, 1) := by decide +kernel
theorem dX8_makesLeast_235 : decode cX8_makesLeast 235 = .ok (.invokevirtual 180, 3) := by decide +kernel
theorem dX8_makesLeast_238 : decode cX8_makesLeast 238 = .ok (.iinc 8 1, 3) := by decide +kernel
theorem dX8_makesLeast_241 : decode cX8_makesLeast 241 = .ok (.goto (-66), 3) := by decide +kernel
theorem dX8_makesLeast_244 : decode cX8_makesLeast 244 = .ok (.iinc 6 1, 3) := by decide +kernel
theorem dX8_makesLeast_247 : decode cX8_makesLeast 247 = .ok (.goto (-153), 3) := by decide +kernel
theorem dX8_makesLeast_250 : decode cX8_makesLeast 250 = .ok (.aload_n 0, 1) := by decide +kernel
theorem dX8_makesLeast_251 : decode cX8_makesLeast 251 = .ok (.aload_n 0, 1) := by decide +kernel
theorem dX8_makesLeast_252 : decode cX8_makesLeast 252 = .ok (.getfield 90, 3) := by decide +kernel
theorem dX8_makesLeast_255 : decode cX8_makesLeast 255 = .ok (.iconst 0, 1) := by decide +kernel
theorem dX8_makesLeast_256 : decode cX8_makesLeast 256 = .ok (.iaload, 1) := by decide +kernel
theorem dX8_makesLeast_257 : decode cX8_makesLeast 257 = .ok (.invokevirtual 191, 3) := by decide +kernel
theorem dX8_makesLeast_260 : decode cX8_makesLeast 260 = .ok (.ireturn, 1) := by decide +kernel
set_option maxRecDepth 20000 in
theorem ggX8_least_X8_isMachine : GoodIn wsX8_least wsX8_isMachine := goodIn_g _ [(5, 4), (4, 1), (9, 1), (136, 47)] (by exact rfl) (by decide +kernel)
set_option maxRecDepth 20000 in
theorem gX8_least_X8_isMachine : GoodIn wsX8_least (wsV RX8 204 RX8 yX8_isMachine wsX8_isMachine) := goodIn_app (goodIn_of _ (by decide +kernel)) ggX8_least_X8_isMachine
set_option maxRecDepth 20000 in
theorem ggX8_least_X8_isThere : GoodIn wsX8_least wsX8_isThere := goodIn_g _ [(13, 1), (6, 1), (136, 47)] (by exact rfl) (by decide +kernel)
set_option maxRecDepth 20000 in
theorem gX8_least_X8_isThere : GoodIn wsX8_least (wsV RX8 184 RX8 yX8_isThere wsX8_isThere) := goodIn_app (goodIn_of _ (by decide +kernel)) ggX8_least_X8_isThere
set_option maxRecDepth 20000 in
theorem ggX8_least_X8_isPlainOf : GoodIn wsX8_least wsX8_isPlainOf := goodIn_g _ [(17, 5), (136, 47)] (by exact rfl) (by decide +kernel)
set_option maxRecDepth 20000 in
theorem gX8_least_X8_isPlainOf : GoodIn wsX8_least (wsV RX8 263 RX8 yX8_isPlainOf wsX8_isPlainOf) := goodIn_app (goodIn_of _ (by decide +kernel)) ggX8_least_X8_isPlainOf
set_option maxRecDepth 20000 in
theorem ggX8_least_X8_makesLeast : GoodIn wsX8_least wsX8_makesLeast := goodIn_g _ [(25, 8), (4, 1), (33, 7), (18, 2), (40, 78), (136, 47)] (by exact rfl) (by decide +kernel)
set_option maxRecDepth 20000 in
theorem gX8_least_X8_makesLeast : GoodIn wsX8_least (wsV RX8 266 RX8 yX8_makesLeast wsX8_makesLeast) := goodIn_app (goodIn_of _ (by decide +kernel)) ggX8_least_X8_makesLeast
set_option maxRecDepth 20000 in
theorem ggX8_least_X8_isFine : GoodIn wsX8_least wsX8_isFine := goodIn_g _ [(121, 2), (136, 47)] (by exact rfl) (by decide +kernel)
set_option maxRecDepth 20000 in
theorem gX8_least_X8_isFine : GoodIn wsX8_least (wsV RX8 138 RX8 yX8_isFine wsX8_isFine) := goodIn_app (goodIn_of _ (by decide +kernel)) ggX8_least_X8_isFine
set_option maxRecDepth 20000 in
theorem ggX8_least_X8_keeps : GoodIn wsX8_least wsX8_keeps := goodIn_g _ [(126, 1), (90, 1), (6, 1), (127, 1), (89, 1), (59, 1), (98, 1), (18, 1), (40, 1), (93, 1), (19, 1), (94, 1), (20, 1), (95, 1), (21, 1), (96, 1), (41, 1), (97, 1), (128, 3), (4, 1), (131, 52)] (by exact rfl) (by decide +kernel)
set_option maxRecDepth 20000 in
theorem gX8_least_X8_keeps : GoodIn wsX8_least (wsV RX8 194 RX8 yX8_keeps wsX8_keeps) := goodIn_app (goodIn_of _ (by decide +kernel)) ggX8_least_X8_keeps
theorem dX8_least_0 : decode cX8_least 0 = .ok (.aload_n 0, 1) := by decide +kernel
theorem dX8_least_1 : decode cX8_least 1 = .ok (.iload_n 1, 1) := by decide +kernel
theorem dX8_least_2 : decode cX8_least 2 = .ok (.invokevirtual 204, 3) := by decide +kernel
theorem dX8_least_5 : decode cX8_least 5 = .ok (.istore_n 2, 1) := by decide +kernel
theorem dX8_least_6 : decode cX8_least 6 = .ok (.aload_n 0, 1) := by decide +kernel
theorem dX8_least_7 : decode cX8_least 7 = .ok (.iload_n 2, 1) := by decide +kernel
theorem dX8_least_8 : decode cX8_least 8 = .ok (.ifCond .ne 7, 3) := by decide +kernel
theorem dX8_least_11 : decode cX8_least 11 = .ok (.iconst 1, 1) := by decide +kernel
theorem dX8_least_12 : decode cX8_least 12 = .ok (.goto 33, 3) := by decide +kernel
theorem dX8_least_15 : decode cX8_least 15 = .ok (.aload_n 0, 1) := by decide +kernel
theorem dX8_least_16 : decode cX8_least 16 = .ok (.invokevirtual 184, 3) := by decide +kernel
theorem dX8_least_19 : decode cX8_least 19 = .ok (.ifCond .eq 21, 3) := by decide +kernel
theorem dX8_least_22 : decode cX8_least 22 = .ok (.aload_n 0, 1) := by decide +kernel
theorem dX8_least_23 : decode cX8_least 23 = .ok (.iload_n 1, 1) := by decide +kernel
theorem dX8_least_24 : decode cX8_least 24 = .ok (.invokevirtual 263, 3) := by decide +kernel
theorem dX8_least_27 : decode cX8_least 27 = .ok (.ifCond .eq 13, 3) := by decide +kernel
theorem dX8_least_30 : decode cX8_least 30 = .ok (.aload_n 0, 1) := by decide +kernel
theorem dX8_least_31 : decode cX8_least 31 = .ok (.iload_n 1, 1) := by decide +kernel
theorem dX8_least_32 : decode cX8_least 32 = .ok (.iload_n 1, 1) := by decide +kernel
theorem dX8_least_33 : decode cX8_least 33 = .ok (.iconst 0, 1) := by decide +kernel
theorem dX8_least_34 : decode cX8_least 34 = .ok (.invokevirtual 266, 3) := by decide +kernel
theorem dX8_least_37 : decode cX8_least 37 = .ok (.ifCond .ne 7, 3) := by decide +kernel
theorem dX8_least_40 : decode cX8_least 40 = .ok (.iconst 2, 1) := by decide +kernel
theorem dX8_least_41 : decode cX8_least 41 = .ok (.goto 4, 3) := by decide +kernel
theorem dX8_least_44 : decode cX8_least 44 = .ok (.iconst 0, 1) := by decide +kernel
theorem dX8_least_45 : decode cX8_least 45 = .ok (.invokevirtual 138, 3) := by decide +kernel
theorem dX8_least_48 : decode cX8_least 48 = .ok (.ifCond .ne 5, 3) := by decide +kernel
theorem dX8_least_51 : decode cX8_least 51 = .ok (.iconst 0, 1) := by decide +kernel
theorem dX8_least_52 : decode cX8_least 52 = .ok (.ireturn, 1) := by decide +kernel
theorem dX8_least_53 : decode cX8_least 53 = .ok (.aload_n 0, 1) := by decide +kernel
theorem dX8_least_54 : decode cX8_least 54 = .ok (.invokevirtual 194, 3) := by decide +kernel
theorem dX8_least_57 : decode cX8_least 57 = .ok (.ireturn, 1) := by decide +kernel
set_option maxRecDepth 20000 in
theorem ggX8_meet_X8_isMachine : GoodIn wsX8_meet wsX8_isMachine := goodIn_g _ [(5, 4), (4, 1), (9, 1), (136, 47)] (by exact rfl) (by decide +kernel)
set_option maxRecDepth 20000 in
theorem gX8_meet_X8_isMachine : GoodIn wsX8_meet (wsV RX8 204 RX8 yX8_isMachine wsX8_isMachine) := goodIn_app (goodIn_of _ (by decide +kernel)) ggX8_meet_X8_isMachine
set_option maxRecDepth 20000 in
theorem ggX8_meet_X8_isThere : GoodIn wsX8_meet wsX8_isThere := goodIn_g _ [(13, 1), (6, 1), (136, 47)] (by exact rfl) (by decide +kernel)
set_option maxRecDepth 20000 in
theorem gX8_meet_X8_isThere : GoodIn wsX8_meet (wsV RX8 184 RX8 yX8_isThere wsX8_isThere) := goodIn_app (goodIn_of _ (by decide +kernel)) ggX8_meet_X8_isThere
set_option maxRecDepth 20000 in
theorem ggX8_meet_X8_isPlainOf : GoodIn wsX8_meet wsX8_isPlainOf := goodIn_g _ [(17, 5), (136, 47)] (by exact rfl) (by decide +kernel)
set_option maxRecDepth 20000 in
theorem gX8_meet_X8_isPlainOf : GoodIn wsX8_meet (wsV RX8 263 RX8 yX8_isPlainOf wsX8_isPlainOf) := goodIn_app (goodIn_of _ (by decide +kernel)) ggX8_meet_X8_isPlainOf
set_option maxRecDepth 20000 in
theorem ggX8_meet_X8_makesLeast : GoodIn wsX8_meet wsX8_makesLeast := goodIn_g _ [(25, 8), (4, 1), (33, 7), (18, 2), (40, 78), (136, 47)] (by exact rfl) (by decide +kernel)
set_option maxRecDepth 20000 in
theorem gX8_meet_X8_makesLeast : GoodIn wsX8_meet (wsV RX8 266 RX8 yX8_makesLeast wsX8_makesLeast) := goodIn_app (goodIn_of _ (by decide +kernel)) ggX8_meet_X8_makesLeast
set_option maxRecDepth 20000 in
theorem ggX8_meet_X8_isFine : GoodIn wsX8_meet wsX8_isFine := goodIn_g _ [(121, 2), (136, 47)] (by exact rfl) (by decide +kernel)
set_option maxRecDepth 20000 in
theorem gX8_meet_X8_isFine : GoodIn wsX8_meet (wsV RX8 138 RX8 yX8_isFine wsX8_isFine) := goodIn_app (goodIn_of _ (by decide +kernel)) ggX8_meet_X8_isFine
set_option maxRecDepth 20000 in
theorem ggX8_meet_X8_keeps : GoodIn wsX8_meet wsX8_keeps := goodIn_g _ [(126, 1), (90, 1), (6, 1), (127, 1), (89, 1), (59, 1), (98, 1), (18, 1), (40, 1), (93, 1), (19, 1), (94, 1), (20, 1), (95, 1), (21, 1), (96, 1), (41, 1), (97, 1), (128, 3), (4, 1), (131, 52)] (by exact rfl) (by decide +kernel)
set_option maxRecDepth 20000 in
theorem gX8_meet_X8_keeps : GoodIn wsX8_meet (wsV RX8 194 RX8 yX8_keeps wsX8_keeps) := goodIn_app (goodIn_of _ (by decide +kernel)) ggX8_meet_X8_keeps
theorem dX8_meet_0 : decode cX8_meet 0 = .ok (.aload_n 0, 1) := by decide +kernel
theorem dX8_meet_1 : decode cX8_meet 1 = .ok (.iload_n 1, 1) := by decide +kernel
theorem dX8_meet_2 : decode cX8_meet 2 = .ok (.invokevirtual 204, 3) := by decide +kernel
theorem dX8_meet_5 : decode cX8_meet 5 = .ok (.ifCond .eq 15, 3) := by decide +kernel
theorem dX8_meet_8 : decode cX8_meet 8 = .ok (.aload_n 0, 1) := by decide +kernel
theorem dX8_meet_9 : decode cX8_meet 9 = .ok (.iload_n 2, 1) := by decide +kernel
theorem dX8_meet_10 : decode cX8_meet 10 = .ok (.invokevirtual 204, 3) := by decide +kernel
theorem dX8_meet_13 : decode cX8_meet 13 = .ok (.ifCond .eq 7, 3) := by decide +kernel
theorem dX8_meet_16 : decode cX8_meet 16 = .ok (.iconst 1, 1) := by decide +kernel
theorem dX8_meet_17 : decode cX8_meet 17 = .ok (.goto 4, 3) := by decide +kernel
theorem dX8_meet_20 : decode cX8_meet 20 = .ok (.iconst 0, 1) := by decide +kernel
theorem dX8_meet_21 : decode cX8_meet 21 = .ok (.istore 4, 2) := by decide +kernel
theorem dX8_meet_23 : decode cX8_meet 23 = .ok (.iload 4, 2) := by decide +kernel
theorem dX8_meet_25 : decode cX8_meet 25 = .ok (.ifCond .eq 30, 3) := by decide +kernel
theorem dX8_meet_28 : decode cX8_meet 28 = .ok (.aload_n 0, 1) := by decide +kernel
theorem dX8_meet_29 : decode cX8_meet 29 = .ok (.invokevirtual 184, 3) := by decide +kernel
theorem dX8_meet_32 : decode cX8_meet 32 = .ok (.ifCond .eq 23, 3) := by decide +kernel
theorem dX8_meet_35 : decode cX8_meet 35 = .ok (.aload_n 0, 1) := by decide +kernel
theorem dX8_meet_36 : decode cX8_meet 36 = .ok (.iload_n 1, 1) := by decide +kernel
theorem dX8_meet_37 : decode cX8_meet 37 = .ok (.invokevirtual 263, 3) := by decide +kernel
theorem dX8_meet_40 : decode cX8_meet 40 = .ok (.ifCond .eq 15, 3) := by decide +kernel
theorem dX8_meet_43 : decode cX8_meet 43 = .ok (.aload_n 0, 1) := by decide +kernel
theorem dX8_meet_44 : decode cX8_meet 44 = .ok (.iload_n 2, 1) := by decide +kernel
theorem dX8_meet_45 : decode cX8_meet 45 = .ok (.invokevirtual 263, 3) := by decide +kernel
theorem dX8_meet_48 : decode cX8_meet 48 = .ok (.ifCond .eq 7, 3) := by decide +kernel
theorem dX8_meet_51 : decode cX8_meet 51 = .ok (.iconst 1, 1) := by decide +kernel
theorem dX8_meet_52 : decode cX8_meet 52 = .ok (.goto 4, 3) := by decide +kernel
theorem dX8_meet_55 : decode cX8_meet 55 = .ok (.iconst 0, 1) := by decide +kernel
theorem dX8_meet_56 : decode cX8_meet 56 = .ok (.istore 5, 2) := by decide +kernel
theorem dX8_meet_58 : decode cX8_meet 58 = .ok (.aload_n 0, 1) := by decide +kernel
theorem dX8_meet_59 : decode cX8_meet 59 = .ok (.iload 4, 2) := by decide +kernel
theorem dX8_meet_61 : decode cX8_meet 61 = .ok (.ifCond .ne 7, 3) := by decide +kernel
theorem dX8_meet_64 : decode cX8_meet 64 = .ok (.iconst 1, 1) := by decide +kernel
theorem dX8_meet_65 : decode cX8_meet 65 = .ok (.goto 31, 3) := by decide +kernel
theorem dX8_meet_68 : decode cX8_meet 68 = .ok (.iload 5, 2) := by decide +kernel
theorem dX8_meet_70 : decode cX8_meet 70 = .ok (.ifCond .eq 21, 3) := by decide +kernel
theorem dX8_meet_73 : decode cX8_meet 73 = .ok (.aload_n 0, 1) := by decide +kernel
theorem dX8_meet_74 : decode cX8_meet 74 = .ok (.iload_n 1, 1) := by decide +kernel
theorem dX8_meet_75 : decode cX8_meet 75 = .ok (.iload_n 2, 1) := by decide +kernel
theorem dX8_meet_76 : decode cX8_meet 76 = .ok (.iload_n 3, 1) := by decide +kernel
theorem dX8_meet_77 : decode cX8_meet 77 = .ok (.ifCond .eq 7, 3) := by decide +kernel
theorem dX8_meet_80 : decode cX8_meet 80 = .ok (.iconst 1, 1) := by decide +kernel
theorem dX8_meet_81 : decode cX8_meet 81 = .ok (.goto 4, 3) := by decide +kernel
theorem dX8_meet_84 : decode cX8_meet 84 = .ok (.iconst 2, 1) := by decide +kernel
theorem dX8_meet_85 : decode cX8_meet 85 = .ok (.invokevirtual 266, 3) := by decide +kernel
theorem dX8_meet_88 : decode cX8_meet 88 = .ok (.ifCond .ne 7, 3) := by decide +kernel
theorem dX8_meet_91 : decode cX8_meet 91 = .ok (.iconst 2, 1) := by decide +kernel
theorem dX8_meet_92 : decode cX8_meet 92 = .ok (.goto 4, 3) := by decide +kernel
theorem dX8_meet_95 : decode cX8_meet 95 = .ok (.iconst 0, 1) := by decide +kernel
theorem dX8_meet_96 : decode cX8_meet 96 = .ok (.invokevirtual 138, 3) := by decide +kernel
theorem dX8_meet_99 : decode cX8_meet 99 = .ok (.ifCond .ne 5, 3) := by decide +kernel
theorem dX8_meet_102 : decode cX8_meet 102 = .ok (.iconst 0, 1) := by decide +kernel
theorem dX8_meet_103 : decode cX8_meet 103 = .ok (.ireturn, 1) := by decide +kernel
theorem dX8_meet_104 : decode cX8_meet 104 = .ok (.aload_n 0, 1) := by decide +kernel
theorem dX8_meet_105 : decode cX8_meet 105 = .ok (.invokevirtual 194, 3) := by decide +kernel
theorem dX8_meet_108 : decode cX8_meet 108 = .ok (.ireturn, 1) := by decide +kernel
set_option maxRecDepth 20000 in
theorem ggX8_isRule_X8_isIn : GoodIn wsX8_isRule wsX8_isIn := goodIn_g _ [(4, 1)] (by exact rfl) (by decide +kernel)
set_option maxRecDepth 20000 in
theorem gX8_isRule_X8_isIn : GoodIn wsX8_isRule (va_wsS RX8 131 yX8_isIn wsX8_isIn) := goodIn_app (goodIn_of _ (by decide +kernel)) ggX8_isRule_X8_isIn
theorem dX8_isRule_0 : decode cX8_isRule 0 = .ok (.iload_n 0, 1) := by decide +kernel
theorem dX8_isRule_1 : decode cX8_isRule 1 = .ok (.iconst 0, 1) := by decide +kernel
theorem dX8_isRule_2 : decode cX8_isRule 2 = .ok (.bipush 7, 2) := by decide +kernel
theorem dX8_isRule_4 : decode cX8_isRule 4 = .ok (.invokestatic 131, 3) := by decide +kernel
theorem dX8_isRule_7 : decode cX8_isRule 7 = .ok (.ifCond .eq 37, 3) := by decide +kernel
theorem dX8_isRule_10 : decode cX8_isRule 10 = .ok (.iload_n 1, 1) := by decide +kernel
theorem dX8_isRule_11 : decode cX8_isRule 11 = .ok (.iconst 0, 1) := by decide +kernel
theorem dX8_isRule_12 : decode cX8_isRule 12 = .ok (.bipush 8, 2) := by decide +kernel
theorem dX8_isRule_14 : decode cX8_isRule 14 = .ok (.invokestatic 131, 3) := by decide +kernel
theorem dX8_isRule_17 : decode cX8_isRule 17 = .ok (.ifCond .eq 27, 3) := by decide +kernel
theorem dX8_isRule_20 : decode cX8_isRule 20 = .ok (.iload_n 2, 1) := by decide +kernel
theorem dX8_isRule_21 : decode cX8_isRule 21 = .ok (.iconst (-1), 1) := by decide +kernel
theorem dX8_isRule_22 : decode cX8_isRule 22 = .ok (.bipush 7, 2) := by decide +kernel
theorem dX8_isRule_24 : decode cX8_isRule 24 = .ok (.invokestatic 131, 3) := by decide +kernel
theorem dX8_isRule_27 : decode cX8_isRule 27 = .ok (.ifCond .eq 17, 3) := by decide +kernel
theorem dX8_isRule_30 : decode cX8_isRule 30 = .ok (.iload_n 3, 1) := by decide +kernel
theorem dX8_isRule_31 : decode cX8_isRule 31 = .ok (.iconst (-1), 1) := by decide +kernel
theorem dX8_isRule_32 : decode cX8_isRule 32 = .ok (.bipush 7, 2) := by decide +kernel
theorem dX8_isRule_34 : decode cX8_isRule 34 = .ok (.invokestatic 131, 3) := by decide +kernel
theorem dX8_isRule_37 : decode cX8_isRule 37 = .ok (.ifCond .eq 7, 3) := by decide +kernel
theorem dX8_isRule_40 : decode cX8_isRule 40 = .ok (.iconst 1, 1) := by decide +kernel
theorem dX8_isRule_41 : decode cX8_isRule 41 = .ok (.goto 4, 3) := by decide +kernel
theorem dX8_isRule_44 : decode cX8_isRule 44 = .ok (.iconst 0, 1) := by decide +kernel
theorem dX8_isRule_45 : decode cX8_isRule 45 = .ok (.ireturn, 1) := by decide +kernel
set_option maxRecDepth 20000 in
theorem ggX8_rulesOne_X8_adds : GoodIn wsX8_rulesOne wsX8_adds := goodIn_g _ [(5, 51)] (by exact rfl) (by decide +kernel)
set_option maxRecDepth 20000 in
theorem gX8_rulesOne_X8_adds : GoodIn wsX8_rulesOne (wsV RX8 180 RX8 yX8_adds wsX8_adds) := goodIn_app (goodIn_of _ (by decide +kernel)) ggX8_rulesOne_X8_adds
theorem dX8_rulesOne_0 : decode cX8_rulesOne 0 = .ok (.iconst 3, 1) := by decide +kernel
theorem dX8_rulesOne_1 : decode cX8_rulesOne 1 = .ok (.iload_n 1, 1) := by decide +kernel
theorem dX8_rulesOne_2 : decode cX8_rulesOne 2 = .ok (.imul, 1) := by decide +kernel
theorem dX8_rulesOne_3 : decode cX8_rulesOne 3 = .ok (.iload_n 2, 1) := by decide +kernel
theorem dX8_rulesOne_4 : decode cX8_rulesOne 4 = .ok (.iadd, 1) := by decide +kernel
theorem dX8_rulesOne_5 : decode cX8_rulesOne 5 = .ok (.istore 9, 2) := by decide +kernel
theorem dX8_rulesOne_7 : decode cX8_rulesOne 7 = .ok (.iconst 3, 1) := by decide +kernel
theorem dX8_rulesOne_8 : decode cX8_rulesOne 8 = .ok (.iload 6, 2) := by decide +kernel
theorem dX8_rulesOne_10 : decode cX8_rulesOne 10 = .ok (.iconst (-1), 1) := by decide +kernel
theorem dX8_rulesOne_11 : decode cX8_rulesOne 11 = .ok (.if_icmp .eq 9, 3) := by decide +kernel
theorem dX8_rulesOne_14 : decode cX8_rulesOne 14 = .ok (.iload_n 3, 1) := by decide +kernel
theorem dX8_rulesOne_15 : decode cX8_rulesOne 15 = .ok (.iload 6, 2) := by decide +kernel
theorem dX8_rulesOne_17 : decode cX8_rulesOne 17 = .ok (.if_icmp .ne 7, 3) := by decide +kernel
theorem dX8_rulesOne_20 : decode cX8_rulesOne 20 = .ok (.iconst 1, 1) := by decide +kernel
theorem dX8_rulesOne_21 : decode cX8_rulesOne 21 = .ok (.goto 4, 3) := by decide +kernel
theorem dX8_rulesOne_24 : decode cX8_rulesOne 24 = .ok (.iconst 0, 1) := by decide +kernel
theorem dX8_rulesOne_25 : decode cX8_rulesOne 25 = .ok (.imul, 1) := by decide +kernel
theorem dX8_rulesOne_26 : decode cX8_rulesOne 26 = .ok (.istore 10, 2) := by decide +kernel
theorem dX8_rulesOne_28 : decode cX8_rulesOne 28 = .ok (.iload_n 3, 1) := by decide +kernel
theorem dX8_rulesOne_29 : decode cX8_rulesOne 29 = .ok (.iload 4, 2) := by decide +kernel
theorem dX8_rulesOne_31 : decode cX8_rulesOne 31 = .ok (.if_icmp .ne 7, 3) := by decide +kernel
theorem dX8_rulesOne_34 : decode cX8_rulesOne 34 = .ok (.iload_n 1, 1) := by decide +kernel
theorem dX8_rulesOne_35 : decode cX8_rulesOne 35 = .ok (.ifCond .ne 15, 3) := by decide +kernel
theorem dX8_rulesOne_38 : decode cX8_rulesOne 38 = .ok (.aload_n 0, 1) := by decide +kernel
theorem dX8_rulesOne_39 : decode cX8_rulesOne 39 = .ok (.iload 9, 2) := by decide +kernel
theorem dX8_rulesOne_41 : decode cX8_rulesOne 41 = .ok (.iload_n 3, 1) := by decide +kernel
theorem dX8_rulesOne_42 : decode cX8_rulesOne 42 = .ok (.iload_n 3, 1) := by decide +kernel
theorem dX8_rulesOne_43 : decode cX8_rulesOne 43 = .ok (.iconst 0, 1) := by decide +kernel
theorem dX8_rulesOne_44 : decode cX8_rulesOne 44 = .ok (.iload 10, 2) := by decide +kernel
theorem dX8_rulesOne_46 : decode cX8_rulesOne 46 = .ok (.invokevirtual 180, 3) := by decide +kernel
theorem dX8_rulesOne_49 : decode cX8_rulesOne 49 = .ok (.return_, 1) := by decide +kernel
theorem dX8_rulesOne_50 : decode cX8_rulesOne 50 = .ok (.aload_n 0, 1) := by decide +kernel
theorem dX8_rulesOne_51 : decode cX8_rulesOne 51 = .ok (.iload 9, 2) := by decide +kernel
theorem dX8_rulesOne_53 : decode cX8_rulesOne 53 = .ok (.iload_n 3, 1) := by decide +kernel
theorem dX8_rulesOne_54 : decode cX8_rulesOne 54 = .ok (.iload 5, 2) := by decide +kernel
theorem dX8_rulesOne_56 : decode cX8_rulesOne 56 = .ok (.iconst 0, 1) := by decide +kernel
theorem dX8_rulesOne_57 : decode cX8_rulesOne 57 = .ok (.iload 10, 2) := by decide +kernel
theorem dX8_rulesOne_59 : decode cX8_rulesOne 59 = .ok (.iload 7, 2) := by decide +kernel
theorem dX8_rulesOne_61 : decode cX8_rulesOne 61 = .ok (.iconst (-1), 1) := by decide +kernel
theorem dX8_rulesOne_62 : decode cX8_rulesOne 62 = .ok (.if_icmp .ne 7, 3) := by decide +kernel
theorem dX8_rulesOne_65 : decode cX8_rulesOne 65 = .ok (.iconst 0, 1) := by decide +kernel
theorem dX8_rulesOne_66 : decode cX8_rulesOne 66 = .ok (.goto 4, 3) := by decide +kernel
theorem dX8_rulesOne_69 : decode cX8_rulesOne 69 = .ok (.iconst 1, 1) := by decide +kernel
theorem dX8_rulesOne_70 : decode cX8_rulesOne 70 = .ok (.iadd, 1) := by decide +kernel
theorem dX8_rulesOne_71 : decode cX8_rulesOne 71 = .ok (.invokevirtual 180, 3) := by decide +kernel
theorem dX8_rulesOne_74 : decode cX8_rulesOne 74 = .ok (.iload 7, 2) := by decide +kernel
theorem dX8_rulesOne_76 : decode cX8_rulesOne 76 = .ok (.iconst (-1), 1) := by decide +kernel
theorem dX8_rulesOne_77 : decode cX8_rulesOne 77 = .ok (.if_icmp .eq 16, 3) := by decide +kernel
theorem dX8_rulesOne_80 : decode cX8_rulesOne 80 = .ok (.aload_n 0, 1) := by decide +kernel
theorem dX8_rulesOne_81 : decode cX8_rulesOne 81 = .ok (.iload 9, 2) := by decide +kernel
theorem dX8_rulesOne_83 : decode cX8_rulesOne 83 = .ok (.iload_n 3, 1) := by decide +kernel
theorem dX8_rulesOne_84 : decode cX8_rulesOne 84 = .ok (.iload_n 3, 1) := by decide +kernel
theorem dX8_rulesOne_85 : decode cX8_rulesOne 85 = .ok (.iconst 0, 1) := by decide +kernel
theorem dX8_rulesOne_86 : decode cX8_rulesOne 86 = .ok (.iload 10, 2) := by decide +kernel
theorem dX8_rulesOne_88 : decode cX8_rulesOne 88 = .ok (.iconst 2, 1) := by decide +kernel
theorem dX8_rulesOne_89 : decode cX8_rulesOne 89 = .ok (.iadd, 1) := by decide +kernel
theorem dX8_rulesOne_90 : decode cX8_rulesOne 90 = .ok (.invokevirtual 180, 3) := by decide +kernel
theorem dX8_rulesOne_93 : decode cX8_rulesOne 93 = .ok (.iload 8, 2) := by decide +kernel
theorem dX8_rulesOne_95 : decode cX8_rulesOne 95 = .ok (.ifCond .eq 14, 3) := by decide +kernel
theorem dX8_rulesOne_98 : decode cX8_rulesOne 98 = .ok (.aload_n 0, 1) := by decide +kernel
theorem dX8_rulesOne_99 : decode cX8_rulesOne 99 = .ok (.iload 9, 2) := by decide +kernel
theorem dX8_rulesOne_101 : decode cX8_rulesOne 101 = .ok (.iload_n 3, 1) := by decide +kernel
theorem dX8_rulesOne_102 : decode cX8_rulesOne 102 = .ok (.iload_n 3, 1) := by decide +kernel
theorem dX8_rulesOne_103 : decode cX8_rulesOne 103 = .ok (.iconst 0, 1) := by decide +kernel
theorem dX8_rulesOne_104 : decode cX8_rulesOne 104 = .ok (.iload 10, 2) := by decide +kernel
theorem dX8_rulesOne_106 : decode cX8_rulesOne 106 = .ok (.invokevirtual 180, 3) := by decide +kernel
theorem dX8_rulesOne_109 : decode cX8_rulesOne 109 = .ok (.return_, 1) := by decide +kernel
set_option maxRecDepth 20000 in
theorem ggX8_rules_X8_begins : GoodIn wsX8_rules wsX8_begins := goodIn_g _ [(6, 2), (1, 1), (52, 47)] (by exact rfl) (by decide +kernel)
set_option maxRecDepth 20000 in
theorem gX8_rules_X8_begins : GoodIn wsX8_rules (wsV RX8 188 RX8 yX8_begins wsX8_begins) := goodIn_app (goodIn_of _ (by decide +kernel)) ggX8_rules_X8_begins
set_option maxRecDepth 20000 in
theorem ggX8_rules_X8_rulesOne : GoodIn wsX8_rules wsX8_rulesOne := goodIn_g _ [(11, 4), (5, 1), (15, 2), (7, 1), (17, 1), (52, 47)] (by exact rfl) (by decide +kernel)
set_option maxRecDepth 20000 in
theorem gX8_rules_X8_rulesOne : GoodIn wsX8_rules (wsV RX8 269 RX8 yX8_rulesOne wsX8_rulesOne) := goodIn_app (goodIn_of _ (by decide +kernel)) ggX8_rules_X8_rulesOne
set_option maxRecDepth 20000 in
theorem ggX8_rules_X8_trims : GoodIn wsX8_rules wsX8_trims := goodIn_g _ [(21, 6), (16, 1), (27, 4), (17, 1), (31, 2), (1, 1), (33, 3), (5, 1), (36, 2), (7, 1), (38, 61)] (by exact rfl) (by decide +kernel)
set_option maxRecDepth 20000 in
theorem gX8_rules_X8_trims : GoodIn wsX8_rules (wsV RX8 191 RX8 yX8_trims wsX8_trims) := goodIn_app (goodIn_of _ (by decide +kernel)) ggX8_rules_X8_trims
theorem dX8_rules_0 : decode cX8_rules 0 = .ok (.aload_n 0, 1) := by decide +kernel
theorem dX8_rules_1 : decode cX8_rules 1 = .ok (.invokevirtual 188, 3) := by decide +kernel
theorem dX8_rules_4 : decode cX8_rules 4 = .ok (.iconst 0, 1) := by decide +kernel
theorem dX8_rules_5 : decode cX8_rules 5 = .ok (.istore 6, 2) := by decide +kernel
theorem dX8_rules_7 : decode cX8_rules 7 = .ok (.iload 6, 2) := by decide +kernel
theorem dX8_rules_9 : decode cX8_rules 9 = .ok (.bipush 6, 2) := by decide +kernel
theorem dX8_rules_11 : decode cX8_rules 11 = .ok (.if_icmp .ge 101, 3) := by decide +kernel
theorem dX8_rules_14 : decode cX8_rules 14 = .ok (.aload_n 0, 1) := by decide +kernel
theorem dX8_rules_15 : decode cX8_rules 15 = .ok (.getfield 44, 3) := by decide +kernel
theorem dX8_rules_18 : decode cX8_rules 18 = .ok (.iload 6, 2) := by decide +kernel
theorem dX8_rules_20 : decode cX8_rules 20 = .ok (.iload 6, 2) := by decide +kernel
theorem dX8_rules_22 : decode cX8_rules 22 = .ok (.iconst 3, 1) := by decide +kernel
theorem dX8_rules_23 : decode cX8_rules 23 = .ok (.irem, 1) := by decide +kernel
theorem dX8_rules_24 : decode cX8_rules 24 = .ok (.iconst 1, 1) := by decide +kernel
theorem dX8_rules_25 : decode cX8_rules 25 = .ok (.if_icmp .eq 7, 3) := by decide +kernel
theorem dX8_rules_28 : decode cX8_rules 28 = .ok (.iconst 1, 1) := by decide +kernel
theorem dX8_rules_29 : decode cX8_rules 29 = .ok (.goto 4, 3) := by decide +kernel
theorem dX8_rules_32 : decode cX8_rules 32 = .ok (.iconst 0, 1) := by decide +kernel
theorem dX8_rules_33 : decode cX8_rules 33 = .ok (.bastore, 1) := by decide +kernel
theorem dX8_rules_34 : decode cX8_rules 34 = .ok (.iconst 0, 1) := by decide +kernel
theorem dX8_rules_35 : decode cX8_rules 35 = .ok (.istore 7, 2) := by decide +kernel
theorem dX8_rules_37 : decode cX8_rules 37 = .ok (.iload 7, 2) := by decide +kernel
theorem dX8_rules_39 : decode cX8_rules 39 = .ok (.bipush 8, 2) := by decide +kernel
theorem dX8_rules_41 : decode cX8_rules 41 = .ok (.if_icmp .ge 65, 3) := by decide +kernel
theorem dX8_rules_44 : decode cX8_rules 44 = .ok (.iload 6, 2) := by decide +kernel
theorem dX8_rules_46 : decode cX8_rules 46 = .ok (.iconst 3, 1) := by decide +kernel
theorem dX8_rules_47 : decode cX8_rules 47 = .ok (.irem, 1) := by decide +kernel
theorem dX8_rules_48 : decode cX8_rules 48 = .ok (.ifCond .eq 31, 3) := by decide +kernel
theorem dX8_rules_51 : decode cX8_rules 51 = .ok (.iload 7, 2) := by decide +kernel
theorem dX8_rules_53 : decode cX8_rules 53 = .ok (.iload 4, 2) := by decide +kernel
theorem dX8_rules_55 : decode cX8_rules 55 = .ok (.if_icmp .ne 7, 3) := by decide +kernel
theorem dX8_rules_58 : decode cX8_rules 58 = .ok (.iconst 1, 1) := by decide +kernel
theorem dX8_rules_59 : decode cX8_rules 59 = .ok (.goto 4, 3) := by decide +kernel
theorem dX8_rules_62 : decode cX8_rules 62 = .ok (.iconst 0, 1) := by decide +kernel
theorem dX8_rules_63 : decode cX8_rules 63 = .ok (.iload 6, 2) := by decide +kernel
theorem dX8_rules_65 : decode cX8_rules 65 = .ok (.iconst 3, 1) := by decide +kernel
theorem dX8_rules_66 : decode cX8_rules 66 = .ok (.irem, 1) := by decide +kernel
theorem dX8_rules_67 : decode cX8_rules 67 = .ok (.iconst 1, 1) := by decide +kernel
theorem dX8_rules_68 : decode cX8_rules 68 = .ok (.if_icmp .ne 7, 3) := by decide +kernel
theorem dX8_rules_71 : decode cX8_rules 71 = .ok (.iconst 1, 1) := by decide +kernel
theorem dX8_rules_72 : decode cX8_rules 72 = .ok (.goto 4, 3) := by decide +kernel
theorem dX8_rules_75 : decode cX8_rules 75 = .ok (.iconst 0, 1) := by decide +kernel
theorem dX8_rules_76 : decode cX8_rules 76 = .ok (.if_icmp .ne 24, 3) := by decide +kernel
theorem dX8_rules_79 : decode cX8_rules 79 = .ok (.aload_n 0, 1) := by decide +kernel
theorem dX8_rules_80 : decode cX8_rules 80 = .ok (.iload 6, 2) := by decide +kernel
theorem dX8_rules_82 : decode cX8_rules 82 = .ok (.iconst 3, 1) := by decide +kernel
theorem dX8_rules_83 : decode cX8_rules 83 = .ok (.idiv, 1) := by decide +kernel
theorem dX8_rules_84 : decode cX8_rules 84 = .ok (.iload 6, 2) := by decide +kernel
theorem dX8_rules_86 : decode cX8_rules 86 = .ok (.iconst 3, 1) := by decide +kernel
theorem dX8_rules_87 : decode cX8_rules 87 = .ok (.irem, 1) := by decide +kernel
theorem dX8_rules_88 : decode cX8_rules 88 = .ok (.iload 7, 2) := by decide +kernel
theorem dX8_rules_90 : decode cX8_rules 90 = .ok (.iload_n 1, 1) := by decide +kernel
theorem dX8_rules_91 : decode cX8_rules 91 = .ok (.iload_n 2, 1) := by decide +kernel
theorem dX8_rules_92 : decode cX8_rules 92 = .ok (.iload_n 3, 1) := by decide +kernel
theorem dX8_rules_93 : decode cX8_rules 93 = .ok (.iload 4, 2) := by decide +kernel
theorem dX8_rules_95 : decode cX8_rules 95 = .ok (.iload 5, 2) := by decide +kernel
theorem dX8_rules_97 : decode cX8_rules 97 = .ok (.invokevirtual 269, 3) := by decide +kernel
theorem dX8_rules_100 : decode cX8_rules 100 = .ok (.iinc 7 1, 3) := by decide +kernel
theorem dX8_rules_103 : decode cX8_rules 103 = .ok (.goto (-66), 3) := by decide +kernel
theorem dX8_rules_106 : decode cX8_rules 106 = .ok (.iinc 6 1, 3) := by decide +kernel
theorem dX8_rules_109 : decode cX8_rules 109 = .ok (.goto (-102), 3) := by decide +kernel
theorem dX8_rules_112 : decode cX8_rules 112 = .ok (.aload_n 0, 1) := by decide +kernel
theorem dX8_rules_113 : decode cX8_rules 113 = .ok (.iload_n 3, 1) := by decide +kernel
theorem dX8_rules_114 : decode cX8_rules 114 = .ok (.iconst (-1), 1) := by decide +kernel
theorem dX8_rules_115 : decode cX8_rules 115 = .ok (.if_icmp .ne 7, 3) := by decide +kernel
theorem dX8_rules_118 : decode cX8_rules 118 = .ok (.iconst 3, 1) := by decide +kernel
theorem dX8_rules_119 : decode cX8_rules 119 = .ok (.goto 4, 3) := by decide +kernel
theorem dX8_rules_122 : decode cX8_rules 122 = .ok (.iconst 0, 1) := by decide +kernel
theorem dX8_rules_123 : decode cX8_rules 123 = .ok (.invokevirtual 191, 3) := by decide +kernel
theorem dX8_rules_126 : decode cX8_rules 126 = .ok (.ireturn, 1) := by decide +kernel
set_option maxRecDepth 20000 in
theorem ggX8_rule_X8_isRule : GoodIn wsX8_rule wsX8_isRule := goodIn_g _ [(4, 3), (3, 1), (7, 1)] (by exact rfl) (by decide +kernel)
set_option maxRecDepth 20000 in
theorem gX8_rule_X8_isRule : GoodIn wsX8_rule (va_wsS RX8 273 yX8_isRule wsX8_isRule) := goodIn_app (goodIn_of _ (by decide +kernel)) ggX8_rule_X8_isRule
set_option maxRecDepth 20000 in
theorem ggX8_rule_X8_isThere : GoodIn wsX8_rule wsX8_isThere := goodIn_g _ [(11, 2), (92, 47)] (by exact rfl) (by decide +kernel)
set_option maxRecDepth 20000 in
theorem gX8_rule_X8_isThere : GoodIn wsX8_rule (wsV RX8 184 RX8 yX8_isThere wsX8_isThere) := goodIn_app (goodIn_of _ (by decide +kernel)) ggX8_rule_X8_isThere
set_option maxRecDepth 20000 in
theorem ggX8_rule_X8_rules : GoodIn wsX8_rule wsX8_rules := goodIn_g _ [(16, 5), (3, 1), (21, 46), (92, 47)] (by exact rfl) (by decide +kernel)
set_option maxRecDepth 20000 in
theorem gX8_rule_X8_rules : GoodIn wsX8_rule (wsV RX8 276 RX8 yX8_rules wsX8_rules) := goodIn_app (goodIn_of _ (by decide +kernel)) ggX8_rule_X8_rules
set_option maxRecDepth 20000 in
theorem ggX8_rule_X8_isFine : GoodIn wsX8_rule wsX8_isFine := goodIn_g _ [(70, 2), (92, 47)] (by exact rfl) (by decide +kernel)
set_option maxRecDepth 20000 in
theorem gX8_rule_X8_isFine : GoodIn wsX8_rule (wsV RX8 138 RX8 yX8_isFine wsX8_isFine) := goodIn_app (goodIn_of _ (by decide +kernel)) ggX8_rule_X8_isFine
set_option maxRecDepth 20000 in
theorem ggX8_rule_X8_keeps : GoodIn wsX8_rule wsX8_keeps := goodIn_g _ [(75, 1), (39, 1), (12, 1), (76, 1), (38, 1), (77, 1), (47, 1), (78, 2), (42, 1), (80, 1), (43, 1), (81, 1), (44, 1), (82, 1), (45, 1), (83, 1), (46, 1), (84, 3), (3, 1), (87, 52)] (by exact rfl) (by decide +kernel)
set_option maxRecDepth 20000 in
theorem gX8_rule_X8_keeps : GoodIn wsX8_rule (wsV RX8 194 RX8 yX8_keeps wsX8_keeps) := goodIn_app (goodIn_of _ (by decide +kernel)) ggX8_rule_X8_keeps
theorem dX8_rule_0 : decode cX8_rule 0 = .ok (.iload_n 1, 1) := by decide +kernel
theorem dX8_rule_1 : decode cX8_rule 1 = .ok (.iload_n 2, 1) := by decide +kernel
theorem dX8_rule_2 : decode cX8_rule 2 = .ok (.iload_n 3, 1) := by decide +kernel
theorem dX8_rule_3 : decode cX8_rule 3 = .ok (.iload 4, 2) := by decide +kernel
theorem dX8_rule_5 : decode cX8_rule 5 = .ok (.invokestatic 273, 3) := by decide +kernel
theorem dX8_rule_8 : decode cX8_rule 8 = .ok (.istore 6, 2) := by decide +kernel
theorem dX8_rule_10 : decode cX8_rule 10 = .ok (.iload_n 2, 1) := by decide +kernel
theorem dX8_rule_11 : decode cX8_rule 11 = .ok (.bipush 8, 2) := by decide +kernel
theorem dX8_rule_13 : decode cX8_rule 13 = .ok (.if_icmp .ne 29, 3) := by decide +kernel
theorem dX8_rule_16 : decode cX8_rule 16 = .ok (.iload_n 3, 1) := by decide +kernel
theorem dX8_rule_17 : decode cX8_rule 17 = .ok (.iconst (-1), 1) := by decide +kernel
theorem dX8_rule_18 : decode cX8_rule 18 = .ok (.if_icmp .eq 8, 3) := by decide +kernel
theorem dX8_rule_21 : decode cX8_rule 21 = .ok (.iload_n 3, 1) := by decide +kernel
theorem dX8_rule_22 : decode cX8_rule 22 = .ok (.iload_n 1, 1) := by decide +kernel
theorem dX8_rule_23 : decode cX8_rule 23 = .ok (.if_icmp .ne 19, 3) := by decide +kernel
theorem dX8_rule_26 : decode cX8_rule 26 = .ok (.iload 4, 2) := by decide +kernel
theorem dX8_rule_28 : decode cX8_rule 28 = .ok (.iconst (-1), 1) := by decide +kernel
theorem dX8_rule_29 : decode cX8_rule 29 = .ok (.if_icmp .eq 9, 3) := by decide +kernel
theorem dX8_rule_32 : decode cX8_rule 32 = .ok (.iload 4, 2) := by decide +kernel
theorem dX8_rule_34 : decode cX8_rule 34 = .ok (.iload_n 1, 1) := by decide +kernel
theorem dX8_rule_35 : decode cX8_rule 35 = .ok (.if_icmp .ne 7, 3) := by decide +kernel
theorem dX8_rule_38 : decode cX8_rule 38 = .ok (.iconst 1, 1) := by decide +kernel
theorem dX8_rule_39 : decode cX8_rule 39 = .ok (.goto 4, 3) := by decide +kernel
theorem dX8_rule_42 : decode cX8_rule 42 = .ok (.iconst 0, 1) := by decide +kernel
theorem dX8_rule_43 : decode cX8_rule 43 = .ok (.istore 7, 2) := by decide +kernel
theorem dX8_rule_45 : decode cX8_rule 45 = .ok (.aload_n 0, 1) := by decide +kernel
theorem dX8_rule_46 : decode cX8_rule 46 = .ok (.iload 6, 2) := by decide +kernel
theorem dX8_rule_48 : decode cX8_rule 48 = .ok (.ifCond .ne 7, 3) := by decide +kernel
theorem dX8_rule_51 : decode cX8_rule 51 = .ok (.iconst 1, 1) := by decide +kernel
theorem dX8_rule_52 : decode cX8_rule 52 = .ok (.goto 34, 3) := by decide +kernel
theorem dX8_rule_55 : decode cX8_rule 55 = .ok (.aload_n 0, 1) := by decide +kernel
theorem dX8_rule_56 : decode cX8_rule 56 = .ok (.invokevirtual 184, 3) := by decide +kernel
theorem dX8_rule_59 : decode cX8_rule 59 = .ok (.ifCond .eq 22, 3) := by decide +kernel
theorem dX8_rule_62 : decode cX8_rule 62 = .ok (.iload 7, 2) := by decide +kernel
theorem dX8_rule_64 : decode cX8_rule 64 = .ok (.ifCond .ne 17, 3) := by decide +kernel
theorem dX8_rule_67 : decode cX8_rule 67 = .ok (.aload_n 0, 1) := by decide +kernel
theorem dX8_rule_68 : decode cX8_rule 68 = .ok (.iload_n 1, 1) := by decide +kernel
theorem dX8_rule_69 : decode cX8_rule 69 = .ok (.iload_n 2, 1) := by decide +kernel
theorem dX8_rule_70 : decode cX8_rule 70 = .ok (.iload_n 3, 1) := by decide +kernel
theorem dX8_rule_71 : decode cX8_rule 71 = .ok (.iload 4, 2) := by decide +kernel
theorem dX8_rule_73 : decode cX8_rule 73 = .ok (.iload 5, 2) := by decide +kernel
theorem dX8_rule_75 : decode cX8_rule 75 = .ok (.invokevirtual 276, 3) := by decide +kernel
theorem dX8_rule_78 : decode cX8_rule 78 = .ok (.ifCond .ne 7, 3) := by decide +kernel
theorem dX8_rule_81 : decode cX8_rule 81 = .ok (.iconst 2, 1) := by decide +kernel
theorem dX8_rule_82 : decode cX8_rule 82 = .ok (.goto 4, 3) := by decide +kernel
theorem dX8_rule_85 : decode cX8_rule 85 = .ok (.iconst 0, 1) := by decide +kernel
theorem dX8_rule_86 : decode cX8_rule 86 = .ok (.invokevirtual 138, 3) := by decide +kernel
theorem dX8_rule_89 : decode cX8_rule 89 = .ok (.ifCond .ne 5, 3) := by decide +kernel
theorem dX8_rule_92 : decode cX8_rule 92 = .ok (.iconst 0, 1) := by decide +kernel
theorem dX8_rule_93 : decode cX8_rule 93 = .ok (.ireturn, 1) := by decide +kernel
theorem dX8_rule_94 : decode cX8_rule 94 = .ok (.aload_n 0, 1) := by decide +kernel
theorem dX8_rule_95 : decode cX8_rule 95 = .ok (.invokevirtual 194, 3) := by decide +kernel
theorem dX8_rule_98 : decode cX8_rule 98 = .ok (.ireturn, 1) := by decide +kernel
set_option maxRecDepth 20000 in
theorem ggX8_size_X8_isMachine : GoodIn wsX8_size wsX8_isMachine := goodIn_g _ [(7, 4), (6, 1), (11, 1), (17, 47)] (by exact rfl) (by decide +kernel)
set_option maxRecDepth 20000 in
theorem gX8_size_X8_isMachine : GoodIn wsX8_size (wsV RX8 204 RX8 yX8_isMachine wsX8_isMachine) := goodIn_app (goodIn_of _ (by decide +kernel)) ggX8_size_X8_isMachine
set_option maxRecDepth 20000 in
theorem ggX8_size_X8_isFine : GoodIn wsX8_size wsX8_isFine := goodIn_g _ [(15, 49)] (by exact rfl) (by decide +kernel)
set_option maxRecDepth 20000 in
theorem gX8_size_X8_isFine : GoodIn wsX8_size (wsV RX8 138 RX8 yX8_isFine wsX8_isFine) := goodIn_app (goodIn_of _ (by decide +kernel)) ggX8_size_X8_isFine
theorem dX8_size_0 : decode cX8_size 0 = .ok (.aload_n 0, 1) := by decide +kernel
theorem dX8_size_1 : decode cX8_size 1 = .ok (.aload_n 0, 1) := by decide +kernel
theorem dX8_size_2 : decode cX8_size 2 = .ok (.iload_n 1, 1) := by decide +kernel
theorem dX8_size_3 : decode cX8_size 3 = .ok (.invokevirtual 204, 3) := by decide +kernel
theorem dX8_size_6 : decode cX8_size 6 = .ok (.ifCond .eq 7, 3) := by decide +kernel
theorem dX8_size_9 : decode cX8_size 9 = .ok (.iconst 0, 1) := by decide +kernel
theorem dX8_size_10 : decode cX8_size 10 = .ok (.goto 4, 3) := by decide +kernel
theorem dX8_size_13 : decode cX8_size 13 = .ok (.iconst 1, 1) := by decide +kernel
theorem dX8_size_14 : decode cX8_size 14 = .ok (.invokevirtual 138, 3) := by decide +kernel
theorem dX8_size_17 : decode cX8_size 17 = .ok (.ifCond .eq 23, 3) := by decide +kernel
theorem dX8_size_20 : decode cX8_size 20 = .ok (.sipush 1000, 3) := by decide +kernel
theorem dX8_size_23 : decode cX8_size 23 = .ok (.aload_n 0, 1) := by decide +kernel
theorem dX8_size_24 : decode cX8_size 24 = .ok (.getfield 13, 3) := by decide +kernel
theorem dX8_size_27 : decode cX8_size 27 = .ok (.iload_n 1, 1) := by decide +kernel
theorem dX8_size_28 : decode cX8_size 28 = .ok (.iaload, 1) := by decide +kernel
theorem dX8_size_29 : decode cX8_size 29 = .ok (.imul, 1) := by decide +kernel
theorem dX8_size_30 : decode cX8_size 30 = .ok (.aload_n 0, 1) := by decide +kernel
theorem dX8_size_31 : decode cX8_size 31 = .ok (.getfield 19, 3) := by decide +kernel
theorem dX8_size_34 : decode cX8_size 34 = .ok (.iload_n 1, 1) := by decide +kernel
theorem dX8_size_35 : decode cX8_size 35 = .ok (.iaload, 1) := by decide +kernel
theorem dX8_size_36 : decode cX8_size 36 = .ok (.iadd, 1) := by decide +kernel
theorem dX8_size_37 : decode cX8_size 37 = .ok (.goto 4, 3) := by decide +kernel
theorem dX8_size_40 : decode cX8_size 40 = .ok (.iconst 0, 1) := by decide +kernel
theorem dX8_size_41 : decode cX8_size 41 = .ok (.ireturn, 1) := by decide +kernel
set_option maxRecDepth 20000 in
theorem ggX8_isEnd_X8_isMachine : GoodIn wsX8_isEnd wsX8_isMachine := goodIn_g _ [(6, 4), (5, 1), (10, 1), (21, 47)] (by exact rfl) (by decide +kernel)
set_option maxRecDepth 20000 in
theorem gX8_isEnd_X8_isMachine : GoodIn wsX8_isEnd (wsV RX8 204 RX8 yX8_isMachine wsX8_isMachine) := goodIn_app (goodIn_of _ (by decide +kernel)) ggX8_isEnd_X8_isMachine
set_option maxRecDepth 20000 in
theorem ggX8_isEnd_X8_isIn : GoodIn wsX8_isEnd wsX8_isIn := goodIn_g _ [(10, 1)] (by exact rfl) (by decide +kernel)
set_option maxRecDepth 20000 in
theorem gX8_isEnd_X8_isIn : GoodIn wsX8_isEnd (va_wsS RX8 131 yX8_isIn wsX8_isIn) := goodIn_app (goodIn_of _ (by decide +kernel)) ggX8_isEnd_X8_isIn
set_option maxRecDepth 20000 in
theorem ggX8_isEnd_X8_isFine : GoodIn wsX8_isEnd wsX8_isFine := goodIn_g _ [(14, 2), (21, 47)] (by exact rfl) (by decide +kernel)
set_option maxRecDepth 20000 in
theorem gX8_isEnd_X8_isFine : GoodIn wsX8_isEnd (wsV RX8 138 RX8 yX8_isFine wsX8_isFine) := goodIn_app (goodIn_of _ (by decide +kernel)) ggX8_isEnd_X8_isFine
set_option maxRecDepth 20000 in
theorem ggX8_isEnd_X8_isEndOf : GoodIn wsX8_isEnd wsX8_isEndOf := goodIn_g _ [(19, 49)] (by exact rfl) (by decide +kernel)
set_option maxRecDepth 20000 in
theorem gX8_isEnd_X8_isEndOf : GoodIn wsX8_isEnd (wsV RX8 201 RX8 yX8_isEndOf wsX8_isEndOf) := goodIn_app (goodIn_of _ (by decide +kernel)) ggX8_isEnd_X8_isEndOf
theorem dX8_isEnd_0 : decode cX8_isEnd 0 = .ok (.aload_n 0, 1) := by decide +kernel
theorem dX8_isEnd_1 : decode cX8_isEnd 1 = .ok (.aload_n 0, 1) := by decide +kernel
theorem dX8_isEnd_2 : decode cX8_isEnd 2 = .ok (.iload_n 1, 1) := by decide +kernel
theorem dX8_isEnd_3 : decode cX8_isEnd 3 = .ok (.invokevirtual 204, 3) := by decide +kernel
theorem dX8_isEnd_6 : decode cX8_isEnd 6 = .ok (.ifCond .eq 23, 3) := by decide +kernel
theorem dX8_isEnd_9 : decode cX8_isEnd 9 = .ok (.iload_n 2, 1) := by decide +kernel
theorem dX8_isEnd_10 : decode cX8_isEnd 10 = .ok (.iconst 0, 1) := by decide +kernel
theorem dX8_isEnd_11 : decode cX8_isEnd 11 = .ok (.aload_n 0, 1) := by decide +kernel
theorem dX8_isEnd_12 : decode cX8_isEnd 12 = .ok (.getfield 13, 3) := by decide +kernel
theorem dX8_isEnd_15 : decode cX8_isEnd 15 = .ok (.iload_n 1, 1) := by decide +kernel
theorem dX8_isEnd_16 : decode cX8_isEnd 16 = .ok (.iaload, 1) := by decide +kernel
theorem dX8_isEnd_17 : decode cX8_isEnd 17 = .ok (.iconst 1, 1) := by decide +kernel
theorem dX8_isEnd_18 : decode cX8_isEnd 18 = .ok (.isub, 1) := by decide +kernel
theorem dX8_isEnd_19 : decode cX8_isEnd 19 = .ok (.invokestatic 131, 3) := by decide +kernel
theorem dX8_isEnd_22 : decode cX8_isEnd 22 = .ok (.ifCond .eq 7, 3) := by decide +kernel
theorem dX8_isEnd_25 : decode cX8_isEnd 25 = .ok (.iconst 0, 1) := by decide +kernel
theorem dX8_isEnd_26 : decode cX8_isEnd 26 = .ok (.goto 4, 3) := by decide +kernel
theorem dX8_isEnd_29 : decode cX8_isEnd 29 = .ok (.iconst 1, 1) := by decide +kernel
theorem dX8_isEnd_30 : decode cX8_isEnd 30 = .ok (.invokevirtual 138, 3) := by decide +kernel
theorem dX8_isEnd_33 : decode cX8_isEnd 33 = .ok (.ifCond .eq 16, 3) := by decide +kernel
theorem dX8_isEnd_36 : decode cX8_isEnd 36 = .ok (.aload_n 0, 1) := by decide +kernel
theorem dX8_isEnd_37 : decode cX8_isEnd 37 = .ok (.iload_n 1, 1) := by decide +kernel
theorem dX8_isEnd_38 : decode cX8_isEnd 38 = .ok (.iload_n 2, 1) := by decide +kernel
theorem dX8_isEnd_39 : decode cX8_isEnd 39 = .ok (.invokevirtual 201, 3) := by decide +kernel
theorem dX8_isEnd_42 : decode cX8_isEnd 42 = .ok (.ifCond .eq 7, 3) := by decide +kernel
theorem dX8_isEnd_45 : decode cX8_isEnd 45 = .ok (.iconst 1, 1) := by decide +kernel
theorem dX8_isEnd_46 : decode cX8_isEnd 46 = .ok (.goto 4, 3) := by decide +kernel
theorem dX8_isEnd_49 : decode cX8_isEnd 49 = .ok (.iconst 0, 1) := by decide +kernel
theorem dX8_isEnd_50 : decode cX8_isEnd 50 = .ok (.ireturn, 1) := by decide +kernel
set_option maxRecDepth 20000 in
theorem ggX8_arc_X8_isMachine : GoodIn wsX8_arc wsX8_isMachine := goodIn_g _ [(11, 4), (10, 1), (15, 1), (21, 47)] (by exact rfl) (by decide +kernel)
set_option maxRecDepth 20000 in
theorem gX8_arc_X8_isMachine : GoodIn wsX8_arc (wsV RX8 204 RX8 yX8_isMachine wsX8_isMachine) := goodIn_app (goodIn_of _ (by decide +kernel)) ggX8_arc_X8_isMachine
set_option maxRecDepth 20000 in
theorem ggX8_arc_X8_isIn : GoodIn wsX8_arc wsX8_isIn := goodIn_g _ [(15, 1)] (by exact rfl) (by decide +kernel)
set_option maxRecDepth 20000 in
theorem gX8_arc_X8_isIn : GoodIn wsX8_arc (va_wsS RX8 131 yX8_isIn wsX8_isIn) := goodIn_app (goodIn_of _ (by decide +kernel)) ggX8_arc_X8_isIn
set_option maxRecDepth 20000 in
theorem ggX8_arc_X8_isFine : GoodIn wsX8_arc wsX8_isFine := goodIn_g _ [(19, 49)] (by exact rfl) (by decide +kernel)
set_option maxRecDepth 20000 in
theorem gX8_arc_X8_isFine : GoodIn wsX8_arc (wsV RX8 138 RX8 yX8_isFine wsX8_isFine) := goodIn_app (goodIn_of _ (by decide +kernel)) ggX8_arc_X8_isFine
theorem dX8_arc_0 : decode cX8_arc 0 = .ok (.aload_n 0, 1) := by decide +kernel
theorem dX8_arc_1 : decode cX8_arc 1 = .ok (.iload_n 1, 1) := by decide +kernel
theorem dX8_arc_2 : decode cX8_arc 2 = .ok (.invokevirtual 204, 3) := by decide +kernel
theorem dX8_arc_5 : decode cX8_arc 5 = .ok (.ifCond .eq 23, 3) := by decide +kernel
theorem dX8_arc_8 : decode cX8_arc 8 = .ok (.iload_n 2, 1) := by decide +kernel
theorem dX8_arc_9 : decode cX8_arc 9 = .ok (.iconst 0, 1) := by decide +kernel
theorem dX8_arc_10 : decode cX8_arc 10 = .ok (.aload_n 0, 1) := by decide +kernel
theorem dX8_arc_11 : decode cX8_arc 11 = .ok (.getfield 19, 3) := by decide +kernel
theorem dX8_arc_14 : decode cX8_arc 14 = .ok (.iload_n 1, 1) := by decide +kernel
theorem dX8_arc_15 : decode cX8_arc 15 = .ok (.iaload, 1) := by decide +kernel
theorem dX8_arc_16 : decode cX8_arc 16 = .ok (.iconst 1, 1) := by decide +kernel
theorem dX8_arc_17 : decode cX8_arc 17 = .ok (.isub, 1) := by decide +kernel
theorem dX8_arc_18 : decode cX8_arc 18 = .ok (.invokestatic 131, 3) := by decide +kernel
theorem dX8_arc_21 : decode cX8_arc 21 = .ok (.ifCond .eq 7, 3) := by decide +kernel
theorem dX8_arc_24 : decode cX8_arc 24 = .ok (.iconst 1, 1) := by decide +kernel
theorem dX8_arc_25 : decode cX8_arc 25 = .ok (.goto 4, 3) := by decide +kernel
theorem dX8_arc_28 : decode cX8_arc 28 = .ok (.iconst 0, 1) := by decide +kernel
theorem dX8_arc_29 : decode cX8_arc 29 = .ok (.istore 4, 2) := by decide +kernel
theorem dX8_arc_31 : decode cX8_arc 31 = .ok (.aload_n 0, 1) := by decide +kernel
theorem dX8_arc_32 : decode cX8_arc 32 = .ok (.iload 4, 2) := by decide +kernel
theorem dX8_arc_34 : decode cX8_arc 34 = .ok (.ifCond .ne 7, 3) := by decide +kernel
theorem dX8_arc_37 : decode cX8_arc 37 = .ok (.iconst 1, 1) := by decide +kernel
theorem dX8_arc_38 : decode cX8_arc 38 = .ok (.goto 17, 3) := by decide +kernel
theorem dX8_arc_41 : decode cX8_arc 41 = .ok (.iload_n 3, 1) := by decide +kernel
theorem dX8_arc_42 : decode cX8_arc 42 = .ok (.iconst 0, 1) := by decide +kernel
theorem dX8_arc_43 : decode cX8_arc 43 = .ok (.iconst 4, 1) := by decide +kernel
theorem dX8_arc_44 : decode cX8_arc 44 = .ok (.invokestatic 131, 3) := by decide +kernel
theorem dX8_arc_47 : decode cX8_arc 47 = .ok (.ifCond .ne 7, 3) := by decide +kernel
theorem dX8_arc_50 : decode cX8_arc 50 = .ok (.iconst 2, 1) := by decide +kernel
theorem dX8_arc_51 : decode cX8_arc 51 = .ok (.goto 4, 3) := by decide +kernel
theorem dX8_arc_54 : decode cX8_arc 54 = .ok (.iconst 0, 1) := by decide +kernel
theorem dX8_arc_55 : decode cX8_arc 55 = .ok (.invokevirtual 138, 3) := by decide +kernel
theorem dX8_arc_58 : decode cX8_arc 58 = .ok (.ifCond .ne 5, 3) := by decide +kernel
theorem dX8_arc_61 : decode cX8_arc 61 = .ok (.iconst 0, 1) := by decide +kernel
theorem dX8_arc_62 : decode cX8_arc 62 = .ok (.ireturn, 1) := by decide +kernel
theorem dX8_arc_63 : decode cX8_arc 63 = .ok (.sipush 160, 3) := by decide +kernel
theorem dX8_arc_66 : decode cX8_arc 66 = .ok (.iload_n 1, 1) := by decide +kernel
theorem dX8_arc_67 : decode cX8_arc 67 = .ok (.imul, 1) := by decide +kernel
theorem dX8_arc_68 : decode cX8_arc 68 = .ok (.iload_n 2, 1) := by decide +kernel
theorem dX8_arc_69 : decode cX8_arc 69 = .ok (.iadd, 1) := by decide +kernel
theorem dX8_arc_70 : decode cX8_arc 70 = .ok (.istore 5, 2) := by decide +kernel
theorem dX8_arc_72 : decode cX8_arc 72 = .ok (.iload_n 3, 1) := by decide +kernel
theorem dX8_arc_73 : decode cX8_arc 73 = .ok (.ifCond .ne 13, 3) := by decide +kernel
theorem dX8_arc_76 : decode cX8_arc 76 = .ok (.aload_n 0, 1) := by decide +kernel
theorem dX8_arc_77 : decode cX8_arc 77 = .ok (.getfield 22, 3) := by decide +kernel
theorem dX8_arc_80 : decode cX8_arc 80 = .ok (.iload 5, 2) := by decide +kernel
theorem dX8_arc_82 : decode cX8_arc 82 = .ok (.iaload, 1) := by decide +kernel
theorem dX8_arc_83 : decode cX8_arc 83 = .ok (.goto 55, 3) := by decide +kernel
theorem dX8_arc_86 : decode cX8_arc 86 = .ok (.iload_n 3, 1) := by decide +kernel
theorem dX8_arc_87 : decode cX8_arc 87 = .ok (.iconst 1, 1) := by decide +kernel
theorem dX8_arc_88 : decode cX8_arc 88 = .ok (.if_icmp .ne 13, 3) := by decide +kernel
theorem dX8_arc_91 : decode cX8_arc 91 = .ok (.aload_n 0, 1) := by decide +kernel
theorem dX8_arc_92 : decode cX8_arc 92 = .ok (.getfield 25, 3) := by decide +kernel
theorem dX8_arc_95 : decode cX8_arc 95 = .ok (.iload 5, 2) := by decide +kernel
theorem dX8_arc_97 : decode cX8_arc 97 = .ok (.iaload, 1) := by decide +kernel
theorem dX8_arc_98 : decode cX8_arc 98 = .ok (.goto 40, 3) := by decide +kernel
theorem dX8_arc_101 : decode cX8_arc 101 = .ok (.iload_n 3, 1) := by decide +kernel
theorem dX8_arc_102 : decode cX8_arc 102 = .ok (.iconst 2, 1) := by decide +kernel
theorem dX8_arc_103 : decode cX8_arc 103 = .ok (.if_icmp .ne 13, 3) := by decide +kernel
theorem dX8_arc_106 : decode cX8_arc 106 = .ok (.aload_n 0, 1) := by decide +kernel
theorem dX8_arc_107 : decode cX8_arc 107 = .ok (.getfield 28, 3) := by decide +kernel
theorem dX8_arc_110 : decode cX8_arc 110 = .ok (.iload 5, 2) := by decide +kernel
theorem dX8_arc_112 : decode cX8_arc 112 = .ok (.iaload, 1) := by decide +kernel
theorem dX8_arc_113 : decode cX8_arc 113 = .ok (.goto 25, 3) := by decide +kernel
theorem dX8_arc_116 : decode cX8_arc 116 = .ok (.iload_n 3, 1) := by decide +kernel
theorem dX8_arc_117 : decode cX8_arc 117 = .ok (.iconst 3, 1) := by decide +kernel
theorem dX8_arc_118 : decode cX8_arc 118 = .ok (.if_icmp .ne 13, 3) := by decide +kernel
theorem dX8_arc_121 : decode cX8_arc 121 = .ok (.aload_n 0, 1) := by decide +kernel
theorem dX8_arc_122 : decode cX8_arc 122 = .ok (.getfield 31, 3) := by decide +kernel
theorem dX8_arc_125 : decode cX8_arc 125 = .ok (.iload 5, 2) := by decide +kernel
theorem dX8_arc_127 : decode cX8_arc 127 = .ok (.iaload, 1) := by decide +kernel
theorem dX8_arc_128 : decode cX8_arc 128 = .ok (.goto 10, 3) := by decide +kernel
theorem dX8_arc_131 : decode cX8_arc 131 = .ok (.aload_n 0, 1) := by decide +kernel
theorem dX8_arc_132 : decode cX8_arc 132 = .ok (.getfield 34, 3) := by decide +kernel
theorem dX8_arc_135 : decode cX8_arc 135 = .ok (.iload 5, 2) := by decide +kernel
theorem dX8_arc_137 : decode cX8_arc 137 = .ok (.iaload, 1) := by decide +kernel
theorem dX8_arc_138 : decode cX8_arc 138 = .ok (.ireturn, 1) := by decide +kernel
set_option maxRecDepth 20000 in
theorem ggX8_isPlain_X8_isMachine : GoodIn wsX8_isPlain wsX8_isMachine := goodIn_g _ [(5, 4), (4, 1), (9, 1), (23, 47)] (by exact rfl) (by decide +kernel)
set_option maxRecDepth 20000 in
theorem gX8_isPlain_X8_isMachine : GoodIn wsX8_isPlain (wsV RX8 204 RX8 yX8_isMachine wsX8_isMachine) := goodIn_app (goodIn_of _ (by decide +kernel)) ggX8_isPlain_X8_isMachine
set_option maxRecDepth 20000 in
theorem ggX8_isPlain_X8_isFine : GoodIn wsX8_isPlain wsX8_isFine := goodIn_g _ [(13, 2), (23, 47)] (by exact rfl) (by decide +kernel)
set_option maxRecDepth 20000 in
theorem gX8_isPlain_X8_isFine : GoodIn wsX8_isPlain (wsV RX8 138 RX8 yX8_isFine wsX8_isFine) := goodIn_app (goodIn_of _ (by decide +kernel)) ggX8_isPlain_X8_isFine
set_option maxRecDepth 20000 in
theorem ggX8_isPlain_X8_isPlainOf : GoodIn wsX8_isPlain wsX8_isPlainOf := goodIn_g _ [(18, 52)] (by exact rfl) (by decide +kernel)
set_option maxRecDepth 20000 in
theorem gX8_isPlain_X8_isPlainOf : GoodIn wsX8_isPlain (wsV RX8 263 RX8 yX8_isPlainOf wsX8_isPlainOf) := goodIn_app (goodIn_of _ (by decide +kernel)) ggX8_isPlain_X8_isPlainOf
theorem dX8_isPlain_0 : decode cX8_isPlain 0 = .ok (.aload_n 0, 1) := by decide +kernel
theorem dX8_isPlain_1 : decode cX8_isPlain 1 = .ok (.aload_n 0, 1) := by decide +kernel
theorem dX8_isPlain_2 : decode cX8_isPlain 2 = .ok (.iload_n 1, 1) := by decide +kernel
theorem dX8_isPlain_3 : decode cX8_isPlain 3 = .ok (.invokevirtual 204, 3) := by decide +kernel
theorem dX8_isPlain_6 : decode cX8_isPlain 6 = .ok (.ifCond .eq 7, 3) := by decide +kernel
theorem dX8_isPlain_9 : decode cX8_isPlain 9 = .ok (.iconst 0, 1) := by decide +kernel
theorem dX8_isPlain_10 : decode cX8_isPlain 10 = .ok (.goto 4, 3) := by decide +kernel
theorem dX8_isPlain_13 : decode cX8_isPlain 13 = .ok (.iconst 1, 1) := by decide +kernel
theorem dX8_isPlain_14 : decode cX8_isPlain 14 = .ok (.invokevirtual 138, 3) := by decide +kernel
theorem dX8_isPlain_17 : decode cX8_isPlain 17 = .ok (.ifCond .eq 15, 3) := by decide +kernel
theorem dX8_isPlain_20 : decode cX8_isPlain 20 = .ok (.aload_n 0, 1) := by decide +kernel
theorem dX8_isPlain_21 : decode cX8_isPlain 21 = .ok (.iload_n 1, 1) := by decide +kernel
theorem dX8_isPlain_22 : decode cX8_isPlain 22 = .ok (.invokevirtual 263, 3) := by decide +kernel
theorem dX8_isPlain_25 : decode cX8_isPlain 25 = .ok (.ifCond .eq 7, 3) := by decide +kernel
theorem dX8_isPlain_28 : decode cX8_isPlain 28 = .ok (.iconst 1, 1) := by decide +kernel
theorem dX8_isPlain_29 : decode cX8_isPlain 29 = .ok (.goto 4, 3) := by decide +kernel
theorem dX8_isPlain_32 : decode cX8_isPlain 32 = .ok (.iconst 0, 1) := by decide +kernel
theorem dX8_isPlain_33 : decode cX8_isPlain 33 = .ok (.ireturn, 1) := by decide +kernel
theorem dX8_inOf_0 : decode cX8_inOf 0 = .ok (.iload_n 2, 1) := by decide +kernel
theorem dX8_inOf_1 : decode cX8_inOf 1 = .ok (.ifCond .eq 12, 3) := by decide +kernel
theorem dX8_inOf_4 : decode cX8_inOf 4 = .ok (.aload_n 0, 1) := by decide +kernel
theorem dX8_inOf_5 : decode cX8_inOf 5 = .ok (.getfield 28, 3) := by decide +kernel
theorem dX8_inOf_8 : decode cX8_inOf 8 = .ok (.iload_n 1, 1) := by decide +kernel
theorem dX8_inOf_9 : decode cX8_inOf 9 = .ok (.iaload, 1) := by decide +kernel
theorem dX8_inOf_10 : decode cX8_inOf 10 = .ok (.goto 9, 3) := by decide +kernel
theorem dX8_inOf_13 : decode cX8_inOf 13 = .ok (.aload_n 0, 1) := by decide +kernel
theorem dX8_inOf_14 : decode cX8_inOf 14 = .ok (.getfield 25, 3) := by decide +kernel
theorem dX8_inOf_17 : decode cX8_inOf 17 = .ok (.iload_n 1, 1) := by decide +kernel
theorem dX8_inOf_18 : decode cX8_inOf 18 = .ok (.iaload, 1) := by decide +kernel
theorem dX8_inOf_19 : decode cX8_inOf 19 = .ok (.ireturn, 1) := by decide +kernel
theorem dX8_outOf_0 : decode cX8_outOf 0 = .ok (.iload_n 2, 1) := by decide +kernel
theorem dX8_outOf_1 : decode cX8_outOf 1 = .ok (.ifCond .eq 12, 3) := by decide +kernel
theorem dX8_outOf_4 : decode cX8_outOf 4 = .ok (.aload_n 0, 1) := by decide +kernel
theorem dX8_outOf_5 : decode cX8_outOf 5 = .ok (.getfield 25, 3) := by decide +kernel
theorem dX8_outOf_8 : decode cX8_outOf 8 = .ok (.iload_n 1, 1) := by decide +kernel
theorem dX8_outOf_9 : decode cX8_outOf 9 = .ok (.iaload, 1) := by decide +kernel
theorem dX8_outOf_10 : decode cX8_outOf 10 = .ok (.goto 9, 3) := by decide +kernel
theorem dX8_outOf_13 : decode cX8_outOf 13 = .ok (.aload_n 0, 1) := by decide +kernel
theorem dX8_outOf_14 : decode cX8_outOf 14 = .ok (.getfield 28, 3) := by decide +kernel
theorem dX8_outOf_17 : decode cX8_outOf 17 = .ok (.iload_n 1, 1) := by decide +kernel
theorem dX8_outOf_18 : decode cX8_outOf 18 = .ok (.iaload, 1) := by decide +kernel
theorem dX8_outOf_19 : decode cX8_outOf 19 = .ok (.ireturn, 1) := by decide +kernel
set_option maxRecDepth 20000 in
theorem ggX8_behind_X8_inOf : GoodIn wsX8_behind wsX8_inOf := goodIn_g _ [(7, 50)] (by exact rfl) (by decide +kernel)
set_option maxRecDepth 20000 in
theorem gX8_behind_X8_inOf : GoodIn wsX8_behind (wsV RX8 280 RX8 yX8_inOf wsX8_inOf) := goodIn_app (goodIn_of _ (by decide +kernel)) ggX8_behind_X8_inOf
theorem dX8_behind_0 : decode cX8_behind 0 = .ok (.aload_n 0, 1) := by decide +kernel
theorem dX8_behind_1 : decode cX8_behind 1 = .ok (.iload_n 1, 1) := by decide +kernel
theorem dX8_behind_2 : decode cX8_behind 2 = .ok (.iload_n 3, 1) := by decide +kernel
theorem dX8_behind_3 : decode cX8_behind 3 = .ok (.invokevirtual 280, 3) := by decide +kernel
theorem dX8_behind_6 : decode cX8_behind 6 = .ok (.istore 4, 2) := by decide +kernel
theorem dX8_behind_8 : decode cX8_behind 8 = .ok (.iload 4, 2) := by decide +kernel
theorem dX8_behind_10 : decode cX8_behind 10 = .ok (.bipush 8, 2) := by decide +kernel
theorem dX8_behind_12 : decode cX8_behind 12 = .ok (.if_icmp .ne 7, 3) := by decide +kernel
theorem dX8_behind_15 : decode cX8_behind 15 = .ok (.iload_n 2, 1) := by decide +kernel
theorem dX8_behind_16 : decode cX8_behind 16 = .ok (.goto 29, 3) := by decide +kernel
theorem dX8_behind_19 : decode cX8_behind 19 = .ok (.iload_n 2, 1) := by decide +kernel
theorem dX8_behind_20 : decode cX8_behind 20 = .ok (.aload_n 0, 1) := by decide +kernel
theorem dX8_behind_21 : decode cX8_behind 21 = .ok (.getfield 135, 3) := by decide +kernel
theorem dX8_behind_24 : decode cX8_behind 24 = .ok (.if_icmp .ge 20, 3) := by decide +kernel
theorem dX8_behind_27 : decode cX8_behind 27 = .ok (.aload_n 0, 1) := by decide +kernel
theorem dX8_behind_28 : decode cX8_behind 28 = .ok (.getfield 7, 3) := by decide +kernel
