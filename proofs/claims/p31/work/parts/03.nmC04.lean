set_option maxRecDepth 20000 in
theorem gX7_meet_X7_keepDraft : GoodIn wsX7_meet (wsV RX7 88 RX7 yX7_keepDraft wsX7_keepDraft) := goodIn_app (goodIn_of _ (by decide +kernel)) ggX7_meet_X7_keepDraft
theorem dX7_meet_0 : decode cX7_meet 0 = .ok (.aload_n 0, 1) := by decide +kernel
theorem dX7_meet_1 : decode cX7_meet 1 = .ok (.iload_n 1, 1) := by decide +kernel
theorem dX7_meet_2 : decode cX7_meet 2 = .ok (.invokevirtual 92, 3) := by decide +kernel
theorem dX7_meet_5 : decode cX7_meet 5 = .ok (.aload_n 0, 1) := by decide +kernel
theorem dX7_meet_6 : decode cX7_meet 6 = .ok (.iload_n 2, 1) := by decide +kernel
theorem dX7_meet_7 : decode cX7_meet 7 = .ok (.invokevirtual 92, 3) := by decide +kernel
theorem dX7_meet_10 : decode cX7_meet 10 = .ok (.aload_n 0, 1) := by decide +kernel
theorem dX7_meet_11 : decode cX7_meet 11 = .ok (.iload_n 1, 1) := by decide +kernel
theorem dX7_meet_12 : decode cX7_meet 12 = .ok (.invokevirtual 157, 3) := by decide +kernel
theorem dX7_meet_15 : decode cX7_meet 15 = .ok (.aload_n 0, 1) := by decide +kernel
theorem dX7_meet_16 : decode cX7_meet 16 = .ok (.iload_n 2, 1) := by decide +kernel
theorem dX7_meet_17 : decode cX7_meet 17 = .ok (.invokevirtual 157, 3) := by decide +kernel
theorem dX7_meet_20 : decode cX7_meet 20 = .ok (.iload_n 3, 1) := by decide +kernel
theorem dX7_meet_21 : decode cX7_meet 21 = .ok (.ifCond .eq 7, 3) := by decide +kernel
theorem dX7_meet_24 : decode cX7_meet 24 = .ok (.iconst 1, 1) := by decide +kernel
theorem dX7_meet_25 : decode cX7_meet 25 = .ok (.goto 4, 3) := by decide +kernel
theorem dX7_meet_28 : decode cX7_meet 28 = .ok (.iconst 0, 1) := by decide +kernel
theorem dX7_meet_29 : decode cX7_meet 29 = .ok (.istore 4, 2) := by decide +kernel
theorem dX7_meet_31 : decode cX7_meet 31 = .ok (.aload_n 0, 1) := by decide +kernel
theorem dX7_meet_32 : decode cX7_meet 32 = .ok (.getfield 37, 3) := by decide +kernel
theorem dX7_meet_35 : decode cX7_meet 35 = .ok (.aload_n 0, 1) := by decide +kernel
theorem dX7_meet_36 : decode cX7_meet 36 = .ok (.getfield 19, 3) := by decide +kernel
theorem dX7_meet_39 : decode cX7_meet 39 = .ok (.iload_n 1, 1) := by decide +kernel
theorem dX7_meet_40 : decode cX7_meet 40 = .ok (.aaload, 1) := by decide +kernel
theorem dX7_meet_41 : decode cX7_meet 41 = .ok (.aload_n 0, 1) := by decide +kernel
theorem dX7_meet_42 : decode cX7_meet 42 = .ok (.getfield 19, 3) := by decide +kernel
theorem dX7_meet_45 : decode cX7_meet 45 = .ok (.iload_n 2, 1) := by decide +kernel
theorem dX7_meet_46 : decode cX7_meet 46 = .ok (.aaload, 1) := by decide +kernel
theorem dX7_meet_47 : decode cX7_meet 47 = .ok (.iload 4, 2) := by decide +kernel
theorem dX7_meet_49 : decode cX7_meet 49 = .ok (.invokevirtual 175, 3) := by decide +kernel
theorem dX7_meet_52 : decode cX7_meet 52 = .ok (.invokestatic 164, 3) := by decide +kernel
theorem dX7_meet_55 : decode cX7_meet 55 = .ok (.aload_n 0, 1) := by decide +kernel
theorem dX7_meet_56 : decode cX7_meet 56 = .ok (.getfield 37, 3) := by decide +kernel
theorem dX7_meet_59 : decode cX7_meet 59 = .ok (.aload_n 0, 1) := by decide +kernel
theorem dX7_meet_60 : decode cX7_meet 60 = .ok (.getfield 30, 3) := by decide +kernel
theorem dX7_meet_63 : decode cX7_meet 63 = .ok (.invokevirtual 168, 3) := by decide +kernel
theorem dX7_meet_66 : decode cX7_meet 66 = .ok (.invokestatic 172, 3) := by decide +kernel
theorem dX7_meet_69 : decode cX7_meet 69 = .ok (.aload_n 0, 1) := by decide +kernel
theorem dX7_meet_70 : decode cX7_meet 70 = .ok (.invokevirtual 88, 3) := by decide +kernel
theorem dX7_meet_73 : decode cX7_meet 73 = .ok (.ireturn, 1) := by decide +kernel
set_option maxRecDepth 20000 in
theorem ggX7_rule_X7_needRule : GoodIn wsX7_rule wsX7_needRule := goodIn_ca (goodIn_g _ [(7, 5), (6, 1), (12, 7)] (by exact rfl) (by decide +kernel)) (goodIn_sub (fun _ h => List.mem_cons_of_mem _ (List.mem_append_right _ h)) (by decide +kernel))
set_option maxRecDepth 20000 in
theorem gX7_rule_X7_needRule : GoodIn wsX7_rule (va_wsS RX7 179 yX7_needRule wsX7_needRule) := goodIn_app (goodIn_of _ (by decide +kernel)) ggX7_rule_X7_needRule
set_option maxRecDepth 20000 in
theorem ggX7_rule_X7_ruleState : GoodIn wsX7_rule wsX7_ruleState := goodIn_g _ [(21, 1)] (by exact rfl) (by decide +kernel)
set_option maxRecDepth 20000 in
theorem gX7_rule_X7_ruleState : GoodIn wsX7_rule (va_wsS RX7 185 yX7_ruleState wsX7_ruleState) := goodIn_app (goodIn_of _ (by decide +kernel)) ggX7_rule_X7_ruleState
set_option maxRecDepth 20000 in
theorem ggX7_rule_X1_begin : GoodIn wsX7_rule wsX1_begin := goodIn_g _ [(26, 9), (150, 13)] (by exact rfl) (by decide +kernel)
set_option maxRecDepth 20000 in
theorem gX7_rule_X1_begin : GoodIn wsX7_rule (wsV RX7 76 RX1 yX1_begin wsX1_begin) := goodIn_app (goodIn_of _ (by decide +kernel)) ggX7_rule_X1_begin
set_option maxRecDepth 20000 in
theorem ggX7_rule_X7_isAsKnown : GoodIn wsX7_rule wsX7_isAsKnown := goodIn_g _ [(37, 1)] (by exact rfl) (by decide +kernel)
set_option maxRecDepth 20000 in
theorem gX7_rule_X7_isAsKnown : GoodIn wsX7_rule (va_wsS RX7 189 yX7_isAsKnown wsX7_isAsKnown) := goodIn_app (goodIn_of _ (by decide +kernel)) ggX7_rule_X7_isAsKnown
set_option maxRecDepth 20000 in
theorem ggX7_rule_X7_addCopy : GoodIn wsX7_rule wsX7_addCopy := goodIn_g _ [(41, 1), (3, 1), (19, 2), (6, 1), (21, 1), (42, 3), (25, 1), (45, 1), (33, 1), (31, 1), (46, 4), (142, 21)] (by exact rfl) (by decide +kernel)
set_option maxRecDepth 20000 in
theorem gX7_rule_X7_addCopy : GoodIn wsX7_rule (wsV RX7 193 RX7 yX7_addCopy wsX7_addCopy) := goodIn_app (goodIn_of _ (by decide +kernel)) ggX7_rule_X7_addCopy
set_option maxRecDepth 20000 in
theorem ggX7_rule_X7_addRewriting : GoodIn wsX7_rule wsX7_addRewriting := goodIn_g _ [(53, 1), (3, 1), (19, 2), (6, 1), (21, 1), (42, 3), (25, 1), (45, 1), (33, 1), (31, 1), (46, 4), (142, 21)] (by exact rfl) (by decide +kernel)
set_option maxRecDepth 20000 in
theorem gX7_rule_X7_addRewriting : GoodIn wsX7_rule (wsV RX7 197 RX7 yX7_addRewriting wsX7_addRewriting) := goodIn_app (goodIn_of _ (by decide +kernel)) ggX7_rule_X7_addRewriting
set_option maxRecDepth 20000 in
theorem ggX7_rule_X1_addEnd : GoodIn wsX7_rule wsX1_addEnd := goodIn_g _ [(57, 1), (31, 1), (34, 1), (150, 13)] (by exact rfl) (by decide +kernel)
set_option maxRecDepth 20000 in
theorem gX7_rule_X1_addEnd : GoodIn wsX7_rule (wsV RX7 84 RX1 yX1_addEnd wsX1_addEnd) := goodIn_app (goodIn_of _ (by decide +kernel)) ggX7_rule_X1_addEnd
set_option maxRecDepth 20000 in
theorem ggX7_rule_X7_keepDraft : GoodIn wsX7_rule wsX7_keepDraft := goodIn_ca (goodIn_g _ [(61, 1), (1, 2), (62, 1), (3, 1), (63, 4), (25, 1), (67, 6), (32, 1), (73, 4), (31, 1), (77, 7), (33, 1), (46, 1), (84, 2), (6, 1), (86, 11), (34, 1), (97, 5), (47, 1), (102, 9), (28, 3), (111, 18), (48, 2), (129, 21), (163, 6), (150, 13)] (by exact rfl) (by decide +kernel)) (goodIn_sub (fun _ h => List.mem_cons_of_mem _ (List.mem_append_left _ (List.mem_append_right _ h))) (by decide +kernel))
set_option maxRecDepth 20000 in
theorem gX7_rule_X7_keepDraft : GoodIn wsX7_rule (wsV RX7 88 RX7 yX7_keepDraft wsX7_keepDraft) := goodIn_app (goodIn_of _ (by decide +kernel)) ggX7_rule_X7_keepDraft
theorem dX7_rule_0 : decode cX7_rule 0 = .ok (.iload_n 1, 1) := by decide +kernel
theorem dX7_rule_1 : decode cX7_rule 1 = .ok (.iload_n 2, 1) := by decide +kernel
theorem dX7_rule_2 : decode cX7_rule 2 = .ok (.iload_n 3, 1) := by decide +kernel
theorem dX7_rule_3 : decode cX7_rule 3 = .ok (.iload 4, 2) := by decide +kernel
theorem dX7_rule_5 : decode cX7_rule 5 = .ok (.invokestatic 179, 3) := by decide +kernel
theorem dX7_rule_8 : decode cX7_rule 8 = .ok (.iload_n 2, 1) := by decide +kernel
theorem dX7_rule_9 : decode cX7_rule 9 = .ok (.bipush 8, 2) := by decide +kernel
theorem dX7_rule_11 : decode cX7_rule 11 = .ok (.if_icmp .ne 35, 3) := by decide +kernel
theorem dX7_rule_14 : decode cX7_rule 14 = .ok (.iload_n 3, 1) := by decide +kernel
theorem dX7_rule_15 : decode cX7_rule 15 = .ok (.iconst (-1), 1) := by decide +kernel
theorem dX7_rule_16 : decode cX7_rule 16 = .ok (.if_icmp .eq 8, 3) := by decide +kernel
theorem dX7_rule_19 : decode cX7_rule 19 = .ok (.iload_n 3, 1) := by decide +kernel
theorem dX7_rule_20 : decode cX7_rule 20 = .ok (.iload_n 1, 1) := by decide +kernel
theorem dX7_rule_21 : decode cX7_rule 21 = .ok (.if_icmp .ne 25, 3) := by decide +kernel
theorem dX7_rule_24 : decode cX7_rule 24 = .ok (.iload 4, 2) := by decide +kernel
theorem dX7_rule_26 : decode cX7_rule 26 = .ok (.iconst (-1), 1) := by decide +kernel
theorem dX7_rule_27 : decode cX7_rule 27 = .ok (.if_icmp .eq 9, 3) := by decide +kernel
theorem dX7_rule_30 : decode cX7_rule 30 = .ok (.iload 4, 2) := by decide +kernel
theorem dX7_rule_32 : decode cX7_rule 32 = .ok (.iload_n 1, 1) := by decide +kernel
theorem dX7_rule_33 : decode cX7_rule 33 = .ok (.if_icmp .ne 13, 3) := by decide +kernel
theorem dX7_rule_36 : decode cX7_rule 36 = .ok (.new 66, 3) := by decide +kernel
theorem dX7_rule_39 : decode cX7_rule 39 = .ok (.dup, 1) := by decide +kernel
theorem dX7_rule_40 : decode cX7_rule 40 = .ok (.ldc 183, 2) := by decide +kernel
theorem dX7_rule_42 : decode cX7_rule 42 = .ok (.invokespecial 70, 3) := by decide +kernel
theorem dX7_rule_45 : decode cX7_rule 45 = .ok (.athrow, 1) := by decide +kernel
theorem dX7_rule_46 : decode cX7_rule 46 = .ok (.aload_n 0, 1) := by decide +kernel
theorem dX7_rule_47 : decode cX7_rule 47 = .ok (.getfield 30, 3) := by decide +kernel
theorem dX7_rule_50 : decode cX7_rule 50 = .ok (.bipush 6, 2) := by decide +kernel
theorem dX7_rule_52 : decode cX7_rule 52 = .ok (.iload_n 3, 1) := by decide +kernel
theorem dX7_rule_53 : decode cX7_rule 53 = .ok (.iconst (-1), 1) := by decide +kernel
theorem dX7_rule_54 : decode cX7_rule 54 = .ok (.if_icmp .ne 7, 3) := by decide +kernel
theorem dX7_rule_57 : decode cX7_rule 57 = .ok (.iconst 1, 1) := by decide +kernel
theorem dX7_rule_58 : decode cX7_rule 58 = .ok (.goto 4, 3) := by decide +kernel
theorem dX7_rule_61 : decode cX7_rule 61 = .ok (.iconst 0, 1) := by decide +kernel
theorem dX7_rule_62 : decode cX7_rule 62 = .ok (.iconst 0, 1) := by decide +kernel
theorem dX7_rule_63 : decode cX7_rule 63 = .ok (.invokestatic 185, 3) := by decide +kernel
theorem dX7_rule_66 : decode cX7_rule 66 = .ok (.invokevirtual 76, 3) := by decide +kernel
theorem dX7_rule_69 : decode cX7_rule 69 = .ok (.iconst 0, 1) := by decide +kernel
theorem dX7_rule_70 : decode cX7_rule 70 = .ok (.istore 6, 2) := by decide +kernel
theorem dX7_rule_72 : decode cX7_rule 72 = .ok (.iload 6, 2) := by decide +kernel
theorem dX7_rule_74 : decode cX7_rule 74 = .ok (.iconst 3, 1) := by decide +kernel
theorem dX7_rule_75 : decode cX7_rule 75 = .ok (.if_icmp .ge 136, 3) := by decide +kernel
theorem dX7_rule_78 : decode cX7_rule 78 = .ok (.iconst 0, 1) := by decide +kernel
theorem dX7_rule_79 : decode cX7_rule 79 = .ok (.istore 7, 2) := by decide +kernel
theorem dX7_rule_81 : decode cX7_rule 81 = .ok (.iload 7, 2) := by decide +kernel
theorem dX7_rule_83 : decode cX7_rule 83 = .ok (.bipush 8, 2) := by decide +kernel
theorem dX7_rule_85 : decode cX7_rule 85 = .ok (.if_icmp .ge 88, 3) := by decide +kernel
theorem dX7_rule_88 : decode cX7_rule 88 = .ok (.iload 7, 2) := by decide +kernel
theorem dX7_rule_90 : decode cX7_rule 90 = .ok (.iload 6, 2) := by decide +kernel
theorem dX7_rule_92 : decode cX7_rule 92 = .ok (.iload 4, 2) := by decide +kernel
theorem dX7_rule_94 : decode cX7_rule 94 = .ok (.invokestatic 189, 3) := by decide +kernel
theorem dX7_rule_97 : decode cX7_rule 97 = .ok (.ifCond .eq 70, 3) := by decide +kernel
theorem dX7_rule_100 : decode cX7_rule 100 = .ok (.iload_n 3, 1) := by decide +kernel
theorem dX7_rule_101 : decode cX7_rule 101 = .ok (.iconst (-1), 1) := by decide +kernel
theorem dX7_rule_102 : decode cX7_rule 102 = .ok (.if_icmp .eq 9, 3) := by decide +kernel
theorem dX7_rule_105 : decode cX7_rule 105 = .ok (.iload 7, 2) := by decide +kernel
theorem dX7_rule_107 : decode cX7_rule 107 = .ok (.iload_n 3, 1) := by decide +kernel
theorem dX7_rule_108 : decode cX7_rule 108 = .ok (.if_icmp .ne 7, 3) := by decide +kernel
theorem dX7_rule_111 : decode cX7_rule 111 = .ok (.iconst 1, 1) := by decide +kernel
theorem dX7_rule_112 : decode cX7_rule 112 = .ok (.goto 4, 3) := by decide +kernel
theorem dX7_rule_115 : decode cX7_rule 115 = .ok (.iconst 0, 1) := by decide +kernel
theorem dX7_rule_116 : decode cX7_rule 116 = .ok (.istore 8, 2) := by decide +kernel
theorem dX7_rule_118 : decode cX7_rule 118 = .ok (.aload_n 0, 1) := by decide +kernel
theorem dX7_rule_119 : decode cX7_rule 119 = .ok (.iconst 0, 1) := by decide +kernel
theorem dX7_rule_120 : decode cX7_rule 120 = .ok (.iload 6, 2) := by decide +kernel
theorem dX7_rule_122 : decode cX7_rule 122 = .ok (.iload 7, 2) := by decide +kernel
theorem dX7_rule_124 : decode cX7_rule 124 = .ok (.iload 8, 2) := by decide +kernel
theorem dX7_rule_126 : decode cX7_rule 126 = .ok (.invokevirtual 193, 3) := by decide +kernel
theorem dX7_rule_129 : decode cX7_rule 129 = .ok (.iload 7, 2) := by decide +kernel
theorem dX7_rule_131 : decode cX7_rule 131 = .ok (.iload_n 1, 1) := by decide +kernel
theorem dX7_rule_132 : decode cX7_rule 132 = .ok (.if_icmp .eq 17, 3) := by decide +kernel
theorem dX7_rule_135 : decode cX7_rule 135 = .ok (.aload_n 0, 1) := by decide +kernel
theorem dX7_rule_136 : decode cX7_rule 136 = .ok (.iconst 1, 1) := by decide +kernel
theorem dX7_rule_137 : decode cX7_rule 137 = .ok (.iload 6, 2) := by decide +kernel
theorem dX7_rule_139 : decode cX7_rule 139 = .ok (.iload 7, 2) := by decide +kernel
theorem dX7_rule_141 : decode cX7_rule 141 = .ok (.iload 8, 2) := by decide +kernel
theorem dX7_rule_143 : decode cX7_rule 143 = .ok (.invokevirtual 193, 3) := by decide +kernel
theorem dX7_rule_146 : decode cX7_rule 146 = .ok (.goto 21, 3) := by decide +kernel
theorem dX7_rule_149 : decode cX7_rule 149 = .ok (.aload_n 0, 1) := by decide +kernel
theorem dX7_rule_150 : decode cX7_rule 150 = .ok (.iconst 1, 1) := by decide +kernel
theorem dX7_rule_151 : decode cX7_rule 151 = .ok (.iload 6, 2) := by decide +kernel
theorem dX7_rule_153 : decode cX7_rule 153 = .ok (.invokestatic 185, 3) := by decide +kernel
theorem dX7_rule_156 : decode cX7_rule 156 = .ok (.iload_n 1, 1) := by decide +kernel
theorem dX7_rule_157 : decode cX7_rule 157 = .ok (.iload_n 2, 1) := by decide +kernel
theorem dX7_rule_158 : decode cX7_rule 158 = .ok (.iload 4, 2) := by decide +kernel
theorem dX7_rule_160 : decode cX7_rule 160 = .ok (.iload 8, 2) := by decide +kernel
theorem dX7_rule_162 : decode cX7_rule 162 = .ok (.iload 5, 2) := by decide +kernel
theorem dX7_rule_164 : decode cX7_rule 164 = .ok (.invokevirtual 197, 3) := by decide +kernel
theorem dX7_rule_167 : decode cX7_rule 167 = .ok (.iinc 7 1, 3) := by decide +kernel
theorem dX7_rule_170 : decode cX7_rule 170 = .ok (.goto (-89), 3) := by decide +kernel
theorem dX7_rule_173 : decode cX7_rule 173 = .ok (.iload 6, 2) := by decide +kernel
theorem dX7_rule_175 : decode cX7_rule 175 = .ok (.iconst 1, 1) := by decide +kernel
theorem dX7_rule_176 : decode cX7_rule 176 = .ok (.if_icmp .eq 29, 3) := by decide +kernel
theorem dX7_rule_179 : decode cX7_rule 179 = .ok (.aload_n 0, 1) := by decide +kernel
theorem dX7_rule_180 : decode cX7_rule 180 = .ok (.getfield 30, 3) := by decide +kernel
theorem dX7_rule_183 : decode cX7_rule 183 = .ok (.iconst 0, 1) := by decide +kernel
theorem dX7_rule_184 : decode cX7_rule 184 = .ok (.iload 6, 2) := by decide +kernel
theorem dX7_rule_186 : decode cX7_rule 186 = .ok (.invokestatic 185, 3) := by decide +kernel
theorem dX7_rule_189 : decode cX7_rule 189 = .ok (.invokevirtual 84, 3) := by decide +kernel
theorem dX7_rule_192 : decode cX7_rule 192 = .ok (.aload_n 0, 1) := by decide +kernel
theorem dX7_rule_193 : decode cX7_rule 193 = .ok (.getfield 30, 3) := by decide +kernel
theorem dX7_rule_196 : decode cX7_rule 196 = .ok (.iconst 1, 1) := by decide +kernel
theorem dX7_rule_197 : decode cX7_rule 197 = .ok (.iload 6, 2) := by decide +kernel
theorem dX7_rule_199 : decode cX7_rule 199 = .ok (.invokestatic 185, 3) := by decide +kernel
theorem dX7_rule_202 : decode cX7_rule 202 = .ok (.invokevirtual 84, 3) := by decide +kernel
theorem dX7_rule_205 : decode cX7_rule 205 = .ok (.iinc 6 1, 3) := by decide +kernel
theorem dX7_rule_208 : decode cX7_rule 208 = .ok (.goto (-136), 3) := by decide +kernel
theorem dX7_rule_211 : decode cX7_rule 211 = .ok (.aload_n 0, 1) := by decide +kernel
theorem dX7_rule_212 : decode cX7_rule 212 = .ok (.invokevirtual 88, 3) := by decide +kernel
theorem dX7_rule_215 : decode cX7_rule 215 = .ok (.ireturn, 1) := by decide +kernel
set_option maxRecDepth 20000 in
theorem ggX7_size_X7_needMachine : GoodIn wsX7_size wsX7_needMachine := goodIn_ca (goodIn_g _ [(9, 12)] (by exact rfl) (by decide +kernel)) (goodIn_sub (fun _ h => List.mem_cons_of_mem _ (List.mem_append_right _ h)) (by decide +kernel))
set_option maxRecDepth 20000 in
theorem gX7_size_X7_needMachine : GoodIn wsX7_size (wsV RX7 92 RX7 yX7_needMachine wsX7_needMachine) := goodIn_app (goodIn_of _ (by decide +kernel)) ggX7_size_X7_needMachine
theorem dX7_size_0 : decode cX7_size 0 = .ok (.aload_n 0, 1) := by decide +kernel
theorem dX7_size_1 : decode cX7_size 1 = .ok (.iload_n 1, 1) := by decide +kernel
theorem dX7_size_2 : decode cX7_size 2 = .ok (.invokevirtual 92, 3) := by decide +kernel
theorem dX7_size_5 : decode cX7_size 5 = .ok (.sipush 1000, 3) := by decide +kernel
theorem dX7_size_8 : decode cX7_size 8 = .ok (.aload_n 0, 1) := by decide +kernel
theorem dX7_size_9 : decode cX7_size 9 = .ok (.getfield 19, 3) := by decide +kernel
theorem dX7_size_12 : decode cX7_size 12 = .ok (.iload_n 1, 1) := by decide +kernel
theorem dX7_size_13 : decode cX7_size 13 = .ok (.aaload, 1) := by decide +kernel
theorem dX7_size_14 : decode cX7_size 14 = .ok (.getfield 95, 3) := by decide +kernel
theorem dX7_size_17 : decode cX7_size 17 = .ok (.imul, 1) := by decide +kernel
theorem dX7_size_18 : decode cX7_size 18 = .ok (.aload_n 0, 1) := by decide +kernel
theorem dX7_size_19 : decode cX7_size 19 = .ok (.getfield 19, 3) := by decide +kernel
theorem dX7_size_22 : decode cX7_size 22 = .ok (.iload_n 1, 1) := by decide +kernel
theorem dX7_size_23 : decode cX7_size 23 = .ok (.aaload, 1) := by decide +kernel
theorem dX7_size_24 : decode cX7_size 24 = .ok (.getfield 115, 3) := by decide +kernel
theorem dX7_size_27 : decode cX7_size 27 = .ok (.getfield 119, 3) := by decide +kernel
theorem dX7_size_30 : decode cX7_size 30 = .ok (.iadd, 1) := by decide +kernel
theorem dX7_size_31 : decode cX7_size 31 = .ok (.ireturn, 1) := by decide +kernel
set_option maxRecDepth 20000 in
theorem ggX7_isEnd_X7_needMachine : GoodIn wsX7_isEnd wsX7_needMachine := goodIn_ca (goodIn_g _ [(10, 1), (1, 2), (11, 1), (15, 8)] (by exact rfl) (by decide +kernel)) (goodIn_sub (fun _ h => List.mem_cons_of_mem _ (List.mem_append_right _ h)) (by decide +kernel))
set_option maxRecDepth 20000 in
theorem gX7_isEnd_X7_needMachine : GoodIn wsX7_isEnd (wsV RX7 92 RX7 yX7_needMachine wsX7_needMachine) := goodIn_app (goodIn_of _ (by decide +kernel)) ggX7_isEnd_X7_needMachine
set_option maxRecDepth 20000 in
theorem ggX7_isEnd_X7_holds : GoodIn wsX7_isEnd wsX7_holds := goodIn_g _ [(14, 1)] (by exact rfl) (by decide +kernel)
set_option maxRecDepth 20000 in
theorem gX7_isEnd_X7_holds : GoodIn wsX7_isEnd (va_wsS RX7 209 yX7_holds wsX7_holds) := goodIn_app (goodIn_of _ (by decide +kernel)) ggX7_isEnd_X7_holds
theorem dX7_isEnd_0 : decode cX7_isEnd 0 = .ok (.aload_n 0, 1) := by decide +kernel
theorem dX7_isEnd_1 : decode cX7_isEnd 1 = .ok (.iload_n 1, 1) := by decide +kernel
theorem dX7_isEnd_2 : decode cX7_isEnd 2 = .ok (.invokevirtual 92, 3) := by decide +kernel
theorem dX7_isEnd_5 : decode cX7_isEnd 5 = .ok (.iload_n 2, 1) := by decide +kernel
theorem dX7_isEnd_6 : decode cX7_isEnd 6 = .ok (.ifCond .lt 16, 3) := by decide +kernel
theorem dX7_isEnd_9 : decode cX7_isEnd 9 = .ok (.iload_n 2, 1) := by decide +kernel
theorem dX7_isEnd_10 : decode cX7_isEnd 10 = .ok (.aload_n 0, 1) := by decide +kernel
theorem dX7_isEnd_11 : decode cX7_isEnd 11 = .ok (.getfield 19, 3) := by decide +kernel
theorem dX7_isEnd_14 : decode cX7_isEnd 14 = .ok (.iload_n 1, 1) := by decide +kernel
theorem dX7_isEnd_15 : decode cX7_isEnd 15 = .ok (.aaload, 1) := by decide +kernel
theorem dX7_isEnd_16 : decode cX7_isEnd 16 = .ok (.getfield 95, 3) := by decide +kernel
theorem dX7_isEnd_19 : decode cX7_isEnd 19 = .ok (.if_icmp .lt 13, 3) := by decide +kernel
theorem dX7_isEnd_22 : decode cX7_isEnd 22 = .ok (.new 201, 3) := by decide +kernel
theorem dX7_isEnd_25 : decode cX7_isEnd 25 = .ok (.dup, 1) := by decide +kernel
theorem dX7_isEnd_26 : decode cX7_isEnd 26 = .ok (.ldc 203, 2) := by decide +kernel
theorem dX7_isEnd_28 : decode cX7_isEnd 28 = .ok (.invokespecial 205, 3) := by decide +kernel
theorem dX7_isEnd_31 : decode cX7_isEnd 31 = .ok (.athrow, 1) := by decide +kernel
theorem dX7_isEnd_32 : decode cX7_isEnd 32 = .ok (.aload_n 0, 1) := by decide +kernel
theorem dX7_isEnd_33 : decode cX7_isEnd 33 = .ok (.getfield 19, 3) := by decide +kernel
theorem dX7_isEnd_36 : decode cX7_isEnd 36 = .ok (.iload_n 1, 1) := by decide +kernel
theorem dX7_isEnd_37 : decode cX7_isEnd 37 = .ok (.aaload, 1) := by decide +kernel
theorem dX7_isEnd_38 : decode cX7_isEnd 38 = .ok (.getfield 206, 3) := by decide +kernel
theorem dX7_isEnd_41 : decode cX7_isEnd 41 = .ok (.iload_n 2, 1) := by decide +kernel
theorem dX7_isEnd_42 : decode cX7_isEnd 42 = .ok (.invokestatic 209, 3) := by decide +kernel
theorem dX7_isEnd_45 : decode cX7_isEnd 45 = .ok (.ireturn, 1) := by decide +kernel
set_option maxRecDepth 20000 in
theorem ggX7_arc_X7_needMachine : GoodIn wsX7_arc wsX7_needMachine := goodIn_ca (goodIn_g _ [(14, 1), (1, 2), (15, 1), (28, 8)] (by exact rfl) (by decide +kernel)) (goodIn_sub (fun _ h => List.mem_cons_of_mem _ (List.mem_append_left _ (List.mem_append_right _ h))) (by decide +kernel))
set_option maxRecDepth 20000 in
theorem gX7_arc_X7_needMachine : GoodIn wsX7_arc (wsV RX7 92 RX7 yX7_needMachine wsX7_needMachine) := goodIn_app (goodIn_of _ (by decide +kernel)) ggX7_arc_X7_needMachine
set_option maxRecDepth 20000 in
theorem ggX7_arc_X7_fromOf : GoodIn wsX7_arc wsX7_fromOf := goodIn_g _ [(18, 1)] (by exact rfl) (by decide +kernel)
set_option maxRecDepth 20000 in
theorem gX7_arc_X7_fromOf : GoodIn wsX7_arc (va_wsS RX7 125 yX7_fromOf wsX7_fromOf) := goodIn_app (goodIn_of _ (by decide +kernel)) ggX7_arc_X7_fromOf
set_option maxRecDepth 20000 in
theorem ggX7_arc_X7_upperOf : GoodIn wsX7_arc wsX7_upperOf := goodIn_g _ [(21, 1)] (by exact rfl) (by decide +kernel)
set_option maxRecDepth 20000 in
theorem gX7_arc_X7_upperOf : GoodIn wsX7_arc (va_wsS RX7 132 yX7_upperOf wsX7_upperOf) := goodIn_app (goodIn_of _ (by decide +kernel)) ggX7_arc_X7_upperOf
set_option maxRecDepth 20000 in
theorem ggX7_arc_X7_lowerOf : GoodIn wsX7_arc wsX7_lowerOf := goodIn_g _ [(24, 1)] (by exact rfl) (by decide +kernel)
set_option maxRecDepth 20000 in
theorem gX7_arc_X7_lowerOf : GoodIn wsX7_arc (va_wsS RX7 129 yX7_lowerOf wsX7_lowerOf) := goodIn_app (goodIn_of _ (by decide +kernel)) ggX7_arc_X7_lowerOf
set_option maxRecDepth 20000 in
theorem ggX7_arc_X7_toOf : GoodIn wsX7_arc wsX7_toOf := goodIn_g _ [(27, 1)] (by exact rfl) (by decide +kernel)
set_option maxRecDepth 20000 in
theorem gX7_arc_X7_toOf : GoodIn wsX7_arc (va_wsS RX7 138 yX7_toOf wsX7_toOf) := goodIn_app (goodIn_of _ (by decide +kernel)) ggX7_arc_X7_toOf
theorem dX7_arc_0 : decode cX7_arc 0 = .ok (.aload_n 0, 1) := by decide +kernel
theorem dX7_arc_1 : decode cX7_arc 1 = .ok (.iload_n 1, 1) := by decide +kernel
theorem dX7_arc_2 : decode cX7_arc 2 = .ok (.invokevirtual 92, 3) := by decide +kernel
theorem dX7_arc_5 : decode cX7_arc 5 = .ok (.aload_n 0, 1) := by decide +kernel
theorem dX7_arc_6 : decode cX7_arc 6 = .ok (.getfield 19, 3) := by decide +kernel
theorem dX7_arc_9 : decode cX7_arc 9 = .ok (.iload_n 1, 1) := by decide +kernel
theorem dX7_arc_10 : decode cX7_arc 10 = .ok (.aaload, 1) := by decide +kernel
theorem dX7_arc_11 : decode cX7_arc 11 = .ok (.getfield 115, 3) := by decide +kernel
theorem dX7_arc_14 : decode cX7_arc 14 = .ok (.astore 4, 2) := by decide +kernel
theorem dX7_arc_16 : decode cX7_arc 16 = .ok (.iload_n 2, 1) := by decide +kernel
theorem dX7_arc_17 : decode cX7_arc 17 = .ok (.ifCond .lt 12, 3) := by decide +kernel
theorem dX7_arc_20 : decode cX7_arc 20 = .ok (.iload_n 2, 1) := by decide +kernel
theorem dX7_arc_21 : decode cX7_arc 21 = .ok (.aload 4, 2) := by decide +kernel
theorem dX7_arc_23 : decode cX7_arc 23 = .ok (.getfield 119, 3) := by decide +kernel
theorem dX7_arc_26 : decode cX7_arc 26 = .ok (.if_icmp .lt 13, 3) := by decide +kernel
theorem dX7_arc_29 : decode cX7_arc 29 = .ok (.new 201, 3) := by decide +kernel
theorem dX7_arc_32 : decode cX7_arc 32 = .ok (.dup, 1) := by decide +kernel
theorem dX7_arc_33 : decode cX7_arc 33 = .ok (.ldc 213, 2) := by decide +kernel
theorem dX7_arc_35 : decode cX7_arc 35 = .ok (.invokespecial 205, 3) := by decide +kernel
theorem dX7_arc_38 : decode cX7_arc 38 = .ok (.athrow, 1) := by decide +kernel
theorem dX7_arc_39 : decode cX7_arc 39 = .ok (.iload_n 3, 1) := by decide +kernel
theorem dX7_arc_40 : decode cX7_arc 40 = .ok (.tableswitch 88 0 4 #[36, 47, 58, 69, 77], 36) := by decide +kernel
theorem dX7_arc_76 : decode cX7_arc 76 = .ok (.aload 4, 2) := by decide +kernel
theorem dX7_arc_78 : decode cX7_arc 78 = .ok (.getfield 122, 3) := by decide +kernel
theorem dX7_arc_81 : decode cX7_arc 81 = .ok (.iload_n 2, 1) := by decide +kernel
theorem dX7_arc_82 : decode cX7_arc 82 = .ok (.iaload, 1) := by decide +kernel
theorem dX7_arc_83 : decode cX7_arc 83 = .ok (.invokestatic 125, 3) := by decide +kernel
theorem dX7_arc_86 : decode cX7_arc 86 = .ok (.ireturn, 1) := by decide +kernel
theorem dX7_arc_87 : decode cX7_arc 87 = .ok (.aload 4, 2) := by decide +kernel
theorem dX7_arc_89 : decode cX7_arc 89 = .ok (.getfield 122, 3) := by decide +kernel
theorem dX7_arc_92 : decode cX7_arc 92 = .ok (.iload_n 2, 1) := by decide +kernel
theorem dX7_arc_93 : decode cX7_arc 93 = .ok (.iaload, 1) := by decide +kernel
theorem dX7_arc_94 : decode cX7_arc 94 = .ok (.invokestatic 132, 3) := by decide +kernel
theorem dX7_arc_97 : decode cX7_arc 97 = .ok (.ireturn, 1) := by decide +kernel
theorem dX7_arc_98 : decode cX7_arc 98 = .ok (.aload 4, 2) := by decide +kernel
theorem dX7_arc_100 : decode cX7_arc 100 = .ok (.getfield 122, 3) := by decide +kernel
theorem dX7_arc_103 : decode cX7_arc 103 = .ok (.iload_n 2, 1) := by decide +kernel
theorem dX7_arc_104 : decode cX7_arc 104 = .ok (.iaload, 1) := by decide +kernel
theorem dX7_arc_105 : decode cX7_arc 105 = .ok (.invokestatic 129, 3) := by decide +kernel
theorem dX7_arc_108 : decode cX7_arc 108 = .ok (.ireturn, 1) := by decide +kernel
theorem dX7_arc_109 : decode cX7_arc 109 = .ok (.aload 4, 2) := by decide +kernel
theorem dX7_arc_111 : decode cX7_arc 111 = .ok (.getfield 135, 3) := by decide +kernel
theorem dX7_arc_114 : decode cX7_arc 114 = .ok (.iload_n 2, 1) := by decide +kernel
theorem dX7_arc_115 : decode cX7_arc 115 = .ok (.iaload, 1) := by decide +kernel
theorem dX7_arc_116 : decode cX7_arc 116 = .ok (.ireturn, 1) := by decide +kernel
theorem dX7_arc_117 : decode cX7_arc 117 = .ok (.aload 4, 2) := by decide +kernel
theorem dX7_arc_119 : decode cX7_arc 119 = .ok (.getfield 122, 3) := by decide +kernel
theorem dX7_arc_122 : decode cX7_arc 122 = .ok (.iload_n 2, 1) := by decide +kernel
theorem dX7_arc_123 : decode cX7_arc 123 = .ok (.iaload, 1) := by decide +kernel
theorem dX7_arc_124 : decode cX7_arc 124 = .ok (.invokestatic 138, 3) := by decide +kernel
theorem dX7_arc_127 : decode cX7_arc 127 = .ok (.ireturn, 1) := by decide +kernel
theorem dX7_arc_128 : decode cX7_arc 128 = .ok (.new 59, 3) := by decide +kernel
theorem dX7_arc_131 : decode cX7_arc 131 = .ok (.dup, 1) := by decide +kernel
theorem dX7_arc_132 : decode cX7_arc 132 = .ok (.ldc 215, 2) := by decide +kernel
theorem dX7_arc_134 : decode cX7_arc 134 = .ok (.invokespecial 63, 3) := by decide +kernel
theorem dX7_arc_137 : decode cX7_arc 137 = .ok (.athrow, 1) := by decide +kernel
set_option maxRecDepth 20000 in
theorem ggX7_answer_X7_needMachine : GoodIn wsX7_answer wsX7_needMachine := goodIn_ca (goodIn_g _ [(8, 4), (148, 8)] (by exact rfl) (by decide +kernel)) (goodIn_sub (fun _ h => List.mem_cons_of_mem _ (List.mem_append_right _ h)) (by decide +kernel))
set_option maxRecDepth 20000 in
theorem gX7_answer_X7_needMachine : GoodIn wsX7_answer (wsV RX7 92 RX7 yX7_needMachine wsX7_needMachine) := goodIn_app (goodIn_of _ (by decide +kernel)) ggX7_answer_X7_needMachine
set_option maxRecDepth 20000 in
theorem ggX7_answer_X7_needPlace : GoodIn wsX7_answer wsX7_needPlace := goodIn_ca (goodIn_g _ [(14, 1), (9, 2)] (by exact rfl) (by decide +kernel)) (goodIn_sub (fun _ h => List.mem_cons_of_mem _ (List.mem_append_right _ h)) (by decide +kernel))
set_option maxRecDepth 20000 in
theorem gX7_answer_X7_needPlace : GoodIn wsX7_answer (va_wsS RX7 221 yX7_needPlace wsX7_needPlace) := goodIn_app (goodIn_of _ (by decide +kernel)) ggX7_answer_X7_needPlace
set_option maxRecDepth 20000 in
theorem ggX7_answer_X7_lookUp : GoodIn wsX7_answer wsX7_lookUp := goodIn_g _ [(18, 1), (3, 1), (19, 33), (7, 1), (52, 45), (148, 28)] (by exact rfl) (by decide +kernel)
set_option maxRecDepth 20000 in
theorem gX7_answer_X7_lookUp : GoodIn wsX7_answer (wsV RX7 226 RX7 yX7_lookUp wsX7_lookUp) := goodIn_app (goodIn_of _ (by decide +kernel)) ggX7_answer_X7_lookUp
set_option maxRecDepth 20000 in
theorem ggX7_answer_X4_find : GoodIn wsX7_answer wsX4_find := goodIn_g _ [(100, 2), (39, 1), (65, 2), (102, 6), (25, 1), (108, 5), (32, 1), (27, 1), (64, 1), (113, 4), (63, 1), (44, 2), (49, 2), (67, 1), (7, 1), (68, 1), (117, 4), (47, 1), (69, 3), (93, 4), (38, 1), (48, 1), (80, 1), (121, 12), (76, 4), (33, 1), (85, 4), (133, 11), (156, 20)] (by exact rfl) (by decide +kernel)
set_option maxRecDepth 20000 in
theorem gX7_answer_X4_find : GoodIn wsX7_answer (wsV RX7 230 RX4 yX4_find wsX4_find) := goodIn_app (goodIn_of _ (by decide +kernel)) ggX7_answer_X4_find
set_option maxRecDepth 20000 in
theorem ggX7_answer_X4_foundLetter : GoodIn wsX7_answer wsX4_foundLetter := goodIn_g _ [(147, 1), (39, 1), (104, 1), (156, 14)] (by exact rfl) (by decide +kernel)
set_option maxRecDepth 20000 in
theorem gX7_answer_X4_foundLetter : GoodIn wsX7_answer (wsV RX7 234 RX4 yX4_foundLetter wsX4_foundLetter) := goodIn_app (goodIn_of _ (by decide +kernel)) ggX7_answer_X4_foundLetter
theorem dX7_answer_0 : decode cX7_answer 0 = .ok (.aload_n 0, 1) := by decide +kernel
theorem dX7_answer_1 : decode cX7_answer 1 = .ok (.iload_n 1, 1) := by decide +kernel
theorem dX7_answer_2 : decode cX7_answer 2 = .ok (.invokevirtual 92, 3) := by decide +kernel
theorem dX7_answer_5 : decode cX7_answer 5 = .ok (.iload 4, 2) := by decide +kernel
theorem dX7_answer_7 : decode cX7_answer 7 = .ok (.invokestatic 221, 3) := by decide +kernel
theorem dX7_answer_10 : decode cX7_answer 10 = .ok (.iload_n 3, 1) := by decide +kernel
theorem dX7_answer_11 : decode cX7_answer 11 = .ok (.ifCond .lt 9, 3) := by decide +kernel
theorem dX7_answer_14 : decode cX7_answer 14 = .ok (.iload_n 3, 1) := by decide +kernel
theorem dX7_answer_15 : decode cX7_answer 15 = .ok (.bipush 20, 2) := by decide +kernel
theorem dX7_answer_17 : decode cX7_answer 17 = .ok (.if_icmp .lt 13, 3) := by decide +kernel
theorem dX7_answer_20 : decode cX7_answer 20 = .ok (.new 59, 3) := by decide +kernel
theorem dX7_answer_23 : decode cX7_answer 23 = .ok (.dup, 1) := by decide +kernel
theorem dX7_answer_24 : decode cX7_answer 24 = .ok (.ldc 224, 2) := by decide +kernel
theorem dX7_answer_26 : decode cX7_answer 26 = .ok (.invokespecial 63, 3) := by decide +kernel
theorem dX7_answer_29 : decode cX7_answer 29 = .ok (.athrow, 1) := by decide +kernel
theorem dX7_answer_30 : decode cX7_answer 30 = .ok (.aload_n 0, 1) := by decide +kernel
theorem dX7_answer_31 : decode cX7_answer 31 = .ok (.iload_n 1, 1) := by decide +kernel
theorem dX7_answer_32 : decode cX7_answer 32 = .ok (.iload_n 2, 1) := by decide +kernel
theorem dX7_answer_33 : decode cX7_answer 33 = .ok (.invokevirtual 226, 3) := by decide +kernel
theorem dX7_answer_36 : decode cX7_answer 36 = .ok (.aload_n 0, 1) := by decide +kernel
theorem dX7_answer_37 : decode cX7_answer 37 = .ok (.getfield 44, 3) := by decide +kernel
theorem dX7_answer_40 : decode cX7_answer 40 = .ok (.iload_n 3, 1) := by decide +kernel
theorem dX7_answer_41 : decode cX7_answer 41 = .ok (.iconst 1, 1) := by decide +kernel
theorem dX7_answer_42 : decode cX7_answer 42 = .ok (.iadd, 1) := by decide +kernel
theorem dX7_answer_43 : decode cX7_answer 43 = .ok (.iconst 0, 1) := by decide +kernel
theorem dX7_answer_44 : decode cX7_answer 44 = .ok (.invokevirtual 230, 3) := by decide +kernel
theorem dX7_answer_47 : decode cX7_answer 47 = .ok (.iload_n 3, 1) := by decide +kernel
theorem dX7_answer_48 : decode cX7_answer 48 = .ok (.if_icmp .gt 5, 3) := by decide +kernel
theorem dX7_answer_51 : decode cX7_answer 51 = .ok (.iconst (-1), 1) := by decide +kernel
theorem dX7_answer_52 : decode cX7_answer 52 = .ok (.ireturn, 1) := by decide +kernel
theorem dX7_answer_53 : decode cX7_answer 53 = .ok (.aload_n 0, 1) := by decide +kernel
theorem dX7_answer_54 : decode cX7_answer 54 = .ok (.getfield 44, 3) := by decide +kernel
theorem dX7_answer_57 : decode cX7_answer 57 = .ok (.iload 4, 2) := by decide +kernel
theorem dX7_answer_59 : decode cX7_answer 59 = .ok (.invokevirtual 234, 3) := by decide +kernel
theorem dX7_answer_62 : decode cX7_answer 62 = .ok (.ireturn, 1) := by decide +kernel
set_option maxRecDepth 20000 in
theorem ggX7_answers_X7_needMachine : GoodIn wsX7_answers wsX7_needMachine := goodIn_ca (goodIn_g _ [(6, 4), (139, 8)] (by exact rfl) (by decide +kernel)) (goodIn_sub (fun _ h => List.mem_cons_of_mem _ (List.mem_append_right _ h)) (by decide +kernel))
set_option maxRecDepth 20000 in
theorem gX7_answers_X7_needMachine : GoodIn wsX7_answers (wsV RX7 92 RX7 yX7_needMachine wsX7_needMachine) := goodIn_app (goodIn_of _ (by decide +kernel)) ggX7_answers_X7_needMachine
set_option maxRecDepth 20000 in
theorem ggX7_answers_X7_lookUp : GoodIn wsX7_answers wsX7_lookUp := goodIn_g _ [(13, 1), (1, 1), (14, 33), (5, 1), (47, 45), (139, 28)] (by exact rfl) (by decide +kernel)
set_option maxRecDepth 20000 in
theorem gX7_answers_X7_lookUp : GoodIn wsX7_answers (wsV RX7 226 RX7 yX7_lookUp wsX7_lookUp) := goodIn_app (goodIn_of _ (by decide +kernel)) ggX7_answers_X7_lookUp
set_option maxRecDepth 20000 in
theorem ggX7_answers_X4_find : GoodIn wsX7_answers wsX4_find := goodIn_g _ [(95, 2), (34, 1), (60, 2), (97, 6), (20, 1), (103, 5), (27, 1), (22, 1), (59, 1), (108, 4), (58, 1), (39, 2), (44, 2), (62, 1), (5, 1), (63, 1), (112, 4), (42, 1), (64, 3), (88, 4), (33, 1), (43, 1), (75, 1), (116, 12), (71, 4), (28, 1), (80, 4), (128, 11), (147, 20)] (by exact rfl) (by decide +kernel)
set_option maxRecDepth 20000 in
theorem gX7_answers_X4_find : GoodIn wsX7_answers (wsV RX7 230 RX4 yX4_find wsX4_find) := goodIn_app (goodIn_of _ (by decide +kernel)) ggX7_answers_X4_find
theorem dX7_answers_0 : decode cX7_answers 0 = .ok (.aload_n 0, 1) := by decide +kernel
theorem dX7_answers_1 : decode cX7_answers 1 = .ok (.iload_n 1, 1) := by decide +kernel
theorem dX7_answers_2 : decode cX7_answers 2 = .ok (.invokevirtual 92, 3) := by decide +kernel
theorem dX7_answers_5 : decode cX7_answers 5 = .ok (.aload_n 0, 1) := by decide +kernel
theorem dX7_answers_6 : decode cX7_answers 6 = .ok (.iload_n 1, 1) := by decide +kernel
theorem dX7_answers_7 : decode cX7_answers 7 = .ok (.iload_n 2, 1) := by decide +kernel
theorem dX7_answers_8 : decode cX7_answers 8 = .ok (.invokevirtual 226, 3) := by decide +kernel
theorem dX7_answers_11 : decode cX7_answers 11 = .ok (.aload_n 0, 1) := by decide +kernel
theorem dX7_answers_12 : decode cX7_answers 12 = .ok (.getfield 44, 3) := by decide +kernel
theorem dX7_answers_15 : decode cX7_answers 15 = .ok (.bipush 20, 2) := by decide +kernel
theorem dX7_answers_17 : decode cX7_answers 17 = .ok (.iconst 0, 1) := by decide +kernel
theorem dX7_answers_18 : decode cX7_answers 18 = .ok (.invokevirtual 230, 3) := by decide +kernel
theorem dX7_answers_21 : decode cX7_answers 21 = .ok (.ireturn, 1) := by decide +kernel
set_option maxRecDepth 20000 in
theorem ggX7_cost_X7_needMachine : GoodIn wsX7_cost wsX7_needMachine := goodIn_ca (goodIn_g _ [(6, 4), (96, 8)] (by exact rfl) (by decide +kernel)) (goodIn_sub (fun _ h => List.mem_cons_of_mem _ (List.mem_append_right _ h)) (by decide +kernel))
set_option maxRecDepth 20000 in
theorem gX7_cost_X7_needMachine : GoodIn wsX7_cost (wsV RX7 92 RX7 yX7_needMachine wsX7_needMachine) := goodIn_app (goodIn_of _ (by decide +kernel)) ggX7_cost_X7_needMachine
set_option maxRecDepth 20000 in
theorem ggX7_cost_X7_lookUp : GoodIn wsX7_cost wsX7_lookUp := goodIn_g _ [(13, 1), (1, 1), (14, 33), (5, 1), (47, 45), (96, 28)] (by exact rfl) (by decide +kernel)
set_option maxRecDepth 20000 in
theorem gX7_cost_X7_lookUp : GoodIn wsX7_cost (wsV RX7 226 RX7 yX7_lookUp wsX7_lookUp) := goodIn_app (goodIn_of _ (by decide +kernel)) ggX7_cost_X7_lookUp
set_option maxRecDepth 20000 in
theorem ggX7_cost_X4_leastCost : GoodIn wsX7_cost wsX4_leastCost := goodIn_g _ [(95, 1), (60, 2), (104, 14)] (by exact rfl) (by decide +kernel)
set_option maxRecDepth 20000 in
theorem gX7_cost_X4_leastCost : GoodIn wsX7_cost (wsV RX7 237 RX4 yX4_leastCost wsX4_leastCost) := goodIn_app (goodIn_of _ (by decide +kernel)) ggX7_cost_X4_leastCost
theorem dX7_cost_0 : decode cX7_cost 0 = .ok (.aload_n 0, 1) := by decide +kernel
theorem dX7_cost_1 : decode cX7_cost 1 = .ok (.iload_n 1, 1) := by decide +kernel
theorem dX7_cost_2 : decode cX7_cost 2 = .ok (.invokevirtual 92, 3) := by decide +kernel
theorem dX7_cost_5 : decode cX7_cost 5 = .ok (.aload_n 0, 1) := by decide +kernel
theorem dX7_cost_6 : decode cX7_cost 6 = .ok (.iload_n 1, 1) := by decide +kernel
theorem dX7_cost_7 : decode cX7_cost 7 = .ok (.iload_n 2, 1) := by decide +kernel
theorem dX7_cost_8 : decode cX7_cost 8 = .ok (.invokevirtual 226, 3) := by decide +kernel
theorem dX7_cost_11 : decode cX7_cost 11 = .ok (.aload_n 0, 1) := by decide +kernel
theorem dX7_cost_12 : decode cX7_cost 12 = .ok (.getfield 44, 3) := by decide +kernel
theorem dX7_cost_15 : decode cX7_cost 15 = .ok (.invokevirtual 237, 3) := by decide +kernel
theorem dX7_cost_18 : decode cX7_cost 18 = .ok (.ireturn, 1) := by decide +kernel
set_option maxRecDepth 20000 in
theorem ggX7_best_X7_needMachine : GoodIn wsX7_best wsX7_needMachine := goodIn_ca (goodIn_g _ [(6, 4), (146, 8)] (by exact rfl) (by decide +kernel)) (goodIn_sub (fun _ h => List.mem_cons_of_mem _ (List.mem_append_right _ h)) (by decide +kernel))
set_option maxRecDepth 20000 in
theorem gX7_best_X7_needMachine : GoodIn wsX7_best (wsV RX7 92 RX7 yX7_needMachine wsX7_needMachine) := goodIn_app (goodIn_of _ (by decide +kernel)) ggX7_best_X7_needMachine
set_option maxRecDepth 20000 in
theorem ggX7_best_X7_needPlace : GoodIn wsX7_best wsX7_needPlace := goodIn_ca (goodIn_g _ [(12, 1), (7, 2)] (by exact rfl) (by decide +kernel)) (goodIn_sub (fun _ h => List.mem_cons_of_mem _ (List.mem_append_right _ h)) (by decide +kernel))
set_option maxRecDepth 20000 in
theorem gX7_best_X7_needPlace : GoodIn wsX7_best (va_wsS RX7 221 yX7_needPlace wsX7_needPlace) := goodIn_app (goodIn_of _ (by decide +kernel)) ggX7_best_X7_needPlace
set_option maxRecDepth 20000 in
theorem ggX7_best_X7_lookUp : GoodIn wsX7_best wsX7_lookUp := goodIn_g _ [(16, 1), (1, 1), (17, 33), (5, 1), (50, 45), (146, 28)] (by exact rfl) (by decide +kernel)
set_option maxRecDepth 20000 in
theorem gX7_best_X7_lookUp : GoodIn wsX7_best (wsV RX7 226 RX7 yX7_lookUp wsX7_lookUp) := goodIn_app (goodIn_of _ (by decide +kernel)) ggX7_best_X7_lookUp
set_option maxRecDepth 20000 in
theorem ggX7_best_X4_find : GoodIn wsX7_best wsX4_find := goodIn_g _ [(98, 2), (37, 1), (63, 2), (100, 6), (23, 1), (106, 5), (30, 1), (25, 1), (62, 1), (111, 4), (61, 1), (42, 2), (47, 2), (65, 1), (5, 1), (66, 1), (115, 4), (45, 1), (67, 3), (91, 4), (36, 1), (46, 1), (78, 1), (119, 12), (74, 4), (31, 1), (83, 4), (131, 11), (154, 20)] (by exact rfl) (by decide +kernel)
set_option maxRecDepth 20000 in
theorem gX7_best_X4_find : GoodIn wsX7_best (wsV RX7 230 RX4 yX4_find wsX4_find) := goodIn_app (goodIn_of _ (by decide +kernel)) ggX7_best_X4_find
set_option maxRecDepth 20000 in
theorem ggX7_best_X4_foundLetter : GoodIn wsX7_best wsX4_foundLetter := goodIn_g _ [(145, 1), (37, 1), (102, 1), (154, 14)] (by exact rfl) (by decide +kernel)
set_option maxRecDepth 20000 in
theorem gX7_best_X4_foundLetter : GoodIn wsX7_best (wsV RX7 234 RX4 yX4_foundLetter wsX4_foundLetter) := goodIn_app (goodIn_of _ (by decide +kernel)) ggX7_best_X4_foundLetter
theorem dX7_best_0 : decode cX7_best 0 = .ok (.aload_n 0, 1) := by decide +kernel
theorem dX7_best_1 : decode cX7_best 1 = .ok (.iload_n 1, 1) := by decide +kernel
theorem dX7_best_2 : decode cX7_best 2 = .ok (.invokevirtual 92, 3) := by decide +kernel
theorem dX7_best_5 : decode cX7_best 5 = .ok (.iload_n 3, 1) := by decide +kernel
theorem dX7_best_6 : decode cX7_best 6 = .ok (.invokestatic 221, 3) := by decide +kernel
theorem dX7_best_9 : decode cX7_best 9 = .ok (.aload_n 0, 1) := by decide +kernel
theorem dX7_best_10 : decode cX7_best 10 = .ok (.iload_n 1, 1) := by decide +kernel
theorem dX7_best_11 : decode cX7_best 11 = .ok (.iload_n 2, 1) := by decide +kernel
theorem dX7_best_12 : decode cX7_best 12 = .ok (.invokevirtual 226, 3) := by decide +kernel
theorem dX7_best_15 : decode cX7_best 15 = .ok (.aload_n 0, 1) := by decide +kernel
theorem dX7_best_16 : decode cX7_best 16 = .ok (.getfield 44, 3) := by decide +kernel
theorem dX7_best_19 : decode cX7_best 19 = .ok (.iconst 1, 1) := by decide +kernel
theorem dX7_best_20 : decode cX7_best 20 = .ok (.iconst 1, 1) := by decide +kernel
theorem dX7_best_21 : decode cX7_best 21 = .ok (.invokevirtual 230, 3) := by decide +kernel
theorem dX7_best_24 : decode cX7_best 24 = .ok (.ifCond .ne 7, 3) := by decide +kernel
theorem dX7_best_27 : decode cX7_best 27 = .ok (.iconst (-1), 1) := by decide +kernel
theorem dX7_best_28 : decode cX7_best 28 = .ok (.goto 11, 3) := by decide +kernel
theorem dX7_best_31 : decode cX7_best 31 = .ok (.aload_n 0, 1) := by decide +kernel
theorem dX7_best_32 : decode cX7_best 32 = .ok (.getfield 44, 3) := by decide +kernel
theorem dX7_best_35 : decode cX7_best 35 = .ok (.iload_n 3, 1) := by decide +kernel
theorem dX7_best_36 : decode cX7_best 36 = .ok (.invokevirtual 234, 3) := by decide +kernel
theorem dX7_best_39 : decode cX7_best 39 = .ok (.ireturn, 1) := by decide +kernel
set_option maxRecDepth 20000 in
theorem ggX7_changes_X7_needMachine : GoodIn wsX7_changes wsX7_needMachine := goodIn_ca (goodIn_g _ [(9, 4), (92, 8)] (by exact rfl) (by decide +kernel)) (goodIn_sub (fun _ h => List.mem_cons_of_mem _ (List.mem_append_right _ h)) (by decide +kernel))
set_option maxRecDepth 20000 in
theorem gX7_changes_X7_needMachine : GoodIn wsX7_changes (wsV RX7 92 RX7 yX7_needMachine wsX7_needMachine) := goodIn_app (goodIn_of _ (by decide +kernel)) ggX7_changes_X7_needMachine
set_option maxRecDepth 20000 in
theorem ggX7_changes_X4_begin : GoodIn wsX7_changes wsX4_begin := goodIn_g _ [(17, 17), (16, 1), (34, 9), (8, 1), (43, 45), (100, 20)] (by exact rfl) (by decide +kernel)
set_option maxRecDepth 20000 in
theorem gX7_changes_X4_begin : GoodIn wsX7_changes (wsV RX7 240 RX4 yX4_begin wsX4_begin) := goodIn_app (goodIn_of _ (by decide +kernel)) ggX7_changes_X4_begin
set_option maxRecDepth 20000 in
theorem ggX7_changes_X4_leastCost : GoodIn wsX7_changes wsX4_leastCost := goodIn_g _ [(91, 1), (56, 2), (100, 14)] (by exact rfl) (by decide +kernel)
set_option maxRecDepth 20000 in
theorem gX7_changes_X4_leastCost : GoodIn wsX7_changes (wsV RX7 237 RX4 yX4_leastCost wsX4_leastCost) := goodIn_app (goodIn_of _ (by decide +kernel)) ggX7_changes_X4_leastCost
theorem dX7_changes_0 : decode cX7_changes 0 = .ok (.aload_n 0, 1) := by decide +kernel
theorem dX7_changes_1 : decode cX7_changes 1 = .ok (.iload_n 1, 1) := by decide +kernel
theorem dX7_changes_2 : decode cX7_changes 2 = .ok (.invokevirtual 92, 3) := by decide +kernel
theorem dX7_changes_5 : decode cX7_changes 5 = .ok (.aload_n 0, 1) := by decide +kernel
theorem dX7_changes_6 : decode cX7_changes 6 = .ok (.getfield 44, 3) := by decide +kernel
theorem dX7_changes_9 : decode cX7_changes 9 = .ok (.aload_n 0, 1) := by decide +kernel
theorem dX7_changes_10 : decode cX7_changes 10 = .ok (.getfield 19, 3) := by decide +kernel
theorem dX7_changes_13 : decode cX7_changes 13 = .ok (.iload_n 1, 1) := by decide +kernel
theorem dX7_changes_14 : decode cX7_changes 14 = .ok (.aaload, 1) := by decide +kernel
theorem dX7_changes_15 : decode cX7_changes 15 = .ok (.aload_n 0, 1) := by decide +kernel
theorem dX7_changes_16 : decode cX7_changes 16 = .ok (.getfield 9, 3) := by decide +kernel
theorem dX7_changes_19 : decode cX7_changes 19 = .ok (.aload_n 0, 1) := by decide +kernel
theorem dX7_changes_20 : decode cX7_changes 20 = .ok (.getfield 13, 3) := by decide +kernel
theorem dX7_changes_23 : decode cX7_changes 23 = .ok (.iconst 2, 1) := by decide +kernel
theorem dX7_changes_24 : decode cX7_changes 24 = .ok (.invokevirtual 240, 3) := by decide +kernel
theorem dX7_changes_27 : decode cX7_changes 27 = .ok (.aload_n 0, 1) := by decide +kernel
theorem dX7_changes_28 : decode cX7_changes 28 = .ok (.getfield 44, 3) := by decide +kernel
theorem dX7_changes_31 : decode cX7_changes 31 = .ok (.invokevirtual 237, 3) := by decide +kernel
theorem dX7_changes_34 : decode cX7_changes 34 = .ok (.ireturn, 1) := by decide +kernel
set_option maxRecDepth 20000 in
theorem ggX7_mended_X7_needMachine : GoodIn wsX7_mended wsX7_needMachine := goodIn_ca (goodIn_g _ [(9, 4), (142, 8)] (by exact rfl) (by decide +kernel)) (goodIn_sub (fun _ h => List.mem_cons_of_mem _ (List.mem_append_right _ h)) (by decide +kernel))
set_option maxRecDepth 20000 in
theorem gX7_mended_X7_needMachine : GoodIn wsX7_mended (wsV RX7 92 RX7 yX7_needMachine wsX7_needMachine) := goodIn_app (goodIn_of _ (by decide +kernel)) ggX7_mended_X7_needMachine
set_option maxRecDepth 20000 in
theorem ggX7_mended_X7_needPlace : GoodIn wsX7_mended wsX7_needPlace := goodIn_ca (goodIn_g _ [(15, 1), (10, 2)] (by exact rfl) (by decide +kernel)) (goodIn_sub (fun _ h => List.mem_cons_of_mem _ (List.mem_append_right _ h)) (by decide +kernel))
set_option maxRecDepth 20000 in
theorem gX7_mended_X7_needPlace : GoodIn wsX7_mended (va_wsS RX7 221 yX7_needPlace wsX7_needPlace) := goodIn_app (goodIn_of _ (by decide +kernel)) ggX7_mended_X7_needPlace
set_option maxRecDepth 20000 in
theorem ggX7_mended_X4_begin : GoodIn wsX7_mended wsX4_begin := goodIn_g _ [(20, 17), (19, 1), (37, 9), (8, 1), (46, 45), (150, 20)] (by exact rfl) (by decide +kernel)
set_option maxRecDepth 20000 in
theorem gX7_mended_X4_begin : GoodIn wsX7_mended (wsV RX7 240 RX4 yX4_begin wsX4_begin) := goodIn_app (goodIn_of _ (by decide +kernel)) ggX7_mended_X4_begin
set_option maxRecDepth 20000 in
theorem ggX7_mended_X4_find : GoodIn wsX7_mended wsX4_find := goodIn_g _ [(94, 2), (33, 1), (59, 2), (96, 6), (19, 1), (102, 5), (26, 1), (21, 1), (58, 1), (107, 4), (57, 1), (38, 2), (43, 2), (61, 1), (8, 1), (62, 1), (111, 4), (41, 1), (63, 3), (87, 4), (32, 1), (42, 1), (74, 1), (115, 12), (70, 4), (27, 1), (79, 4), (127, 11), (150, 20)] (by exact rfl) (by decide +kernel)
set_option maxRecDepth 20000 in
theorem gX7_mended_X4_find : GoodIn wsX7_mended (wsV RX7 230 RX4 yX4_find wsX4_find) := goodIn_app (goodIn_of _ (by decide +kernel)) ggX7_mended_X4_find
set_option maxRecDepth 20000 in
theorem ggX7_mended_X4_foundLetter : GoodIn wsX7_mended wsX4_foundLetter := goodIn_g _ [(141, 1), (33, 1), (98, 1), (150, 14)] (by exact rfl) (by decide +kernel)
set_option maxRecDepth 20000 in
theorem gX7_mended_X4_foundLetter : GoodIn wsX7_mended (wsV RX7 234 RX4 yX4_foundLetter wsX4_foundLetter) := goodIn_app (goodIn_of _ (by decide +kernel)) ggX7_mended_X4_foundLetter
theorem dX7_mended_0 : decode cX7_mended 0 = .ok (.aload_n 0, 1) := by decide +kernel
theorem dX7_mended_1 : decode cX7_mended 1 = .ok (.iload_n 1, 1) := by decide +kernel
theorem dX7_mended_2 : decode cX7_mended 2 = .ok (.invokevirtual 92, 3) := by decide +kernel
theorem dX7_mended_5 : decode cX7_mended 5 = .ok (.iload_n 2, 1) := by decide +kernel
theorem dX7_mended_6 : decode cX7_mended 6 = .ok (.invokestatic 221, 3) := by decide +kernel
theorem dX7_mended_9 : decode cX7_mended 9 = .ok (.aload_n 0, 1) := by decide +kernel
theorem dX7_mended_10 : decode cX7_mended 10 = .ok (.getfield 44, 3) := by decide +kernel
theorem dX7_mended_13 : decode cX7_mended 13 = .ok (.aload_n 0, 1) := by decide +kernel
theorem dX7_mended_14 : decode cX7_mended 14 = .ok (.getfield 19, 3) := by decide +kernel
theorem dX7_mended_17 : decode cX7_mended 17 = .ok (.iload_n 1, 1) := by decide +kernel
theorem dX7_mended_18 : decode cX7_mended 18 = .ok (.aaload, 1) := by decide +kernel
theorem dX7_mended_19 : decode cX7_mended 19 = .ok (.aload_n 0, 1) := by decide +kernel
theorem dX7_mended_20 : decode cX7_mended 20 = .ok (.getfield 9, 3) := by decide +kernel
theorem dX7_mended_23 : decode cX7_mended 23 = .ok (.aload_n 0, 1) := by decide +kernel
theorem dX7_mended_24 : decode cX7_mended 24 = .ok (.getfield 13, 3) := by decide +kernel
theorem dX7_mended_27 : decode cX7_mended 27 = .ok (.iconst 2, 1) := by decide +kernel
theorem dX7_mended_28 : decode cX7_mended 28 = .ok (.invokevirtual 240, 3) := by decide +kernel
theorem dX7_mended_31 : decode cX7_mended 31 = .ok (.aload_n 0, 1) := by decide +kernel
theorem dX7_mended_32 : decode cX7_mended 32 = .ok (.getfield 44, 3) := by decide +kernel
theorem dX7_mended_35 : decode cX7_mended 35 = .ok (.iconst 1, 1) := by decide +kernel
theorem dX7_mended_36 : decode cX7_mended 36 = .ok (.iconst 1, 1) := by decide +kernel
theorem dX7_mended_37 : decode cX7_mended 37 = .ok (.invokevirtual 230, 3) := by decide +kernel
theorem dX7_mended_40 : decode cX7_mended 40 = .ok (.ifCond .ne 7, 3) := by decide +kernel
theorem dX7_mended_43 : decode cX7_mended 43 = .ok (.iconst (-1), 1) := by decide +kernel
theorem dX7_mended_44 : decode cX7_mended 44 = .ok (.goto 11, 3) := by decide +kernel
theorem dX7_mended_47 : decode cX7_mended 47 = .ok (.aload_n 0, 1) := by decide +kernel
theorem dX7_mended_48 : decode cX7_mended 48 = .ok (.getfield 44, 3) := by decide +kernel
theorem dX7_mended_51 : decode cX7_mended 51 = .ok (.iload_n 2, 1) := by decide +kernel
theorem dX7_mended_52 : decode cX7_mended 52 = .ok (.invokevirtual 234, 3) := by decide +kernel
theorem dX7_mended_55 : decode cX7_mended 55 = .ok (.ireturn, 1) := by decide +kernel
set_option maxRecDepth 20000 in
theorem ggX7_apart_X7_needMachine : GoodIn wsX7_apart wsX7_needMachine := goodIn_ca (goodIn_g _ [(7, 4), (118, 8)] (by exact rfl) (by decide +kernel)) (goodIn_sub (fun _ h => List.mem_cons_of_mem _ (List.mem_append_left _ (List.mem_append_right _ h))) (by decide +kernel))
set_option maxRecDepth 20000 in
theorem gX7_apart_X7_needMachine : GoodIn wsX7_apart (wsV RX7 92 RX7 yX7_needMachine wsX7_needMachine) := goodIn_app (goodIn_of _ (by decide +kernel)) ggX7_apart_X7_needMachine
set_option maxRecDepth 20000 in
theorem ggX7_apart_X7_needPlace : GoodIn wsX7_apart wsX7_needPlace := goodIn_ca (goodIn_g _ [(13, 1), (8, 2)] (by exact rfl) (by decide +kernel)) (goodIn_sub (fun _ h => List.mem_cons_of_mem _ (List.mem_append_left _ (List.mem_append_right _ h))) (by decide +kernel))
set_option maxRecDepth 20000 in
theorem gX7_apart_X7_needPlace : GoodIn wsX7_apart (va_wsS RX7 221 yX7_needPlace wsX7_needPlace) := goodIn_app (goodIn_of _ (by decide +kernel)) ggX7_apart_X7_needPlace
set_option maxRecDepth 20000 in
theorem ggX7_apart_X7_needPlain : GoodIn wsX7_apart wsX7_needPlain := goodIn_ca (goodIn_g _ [(17, 3), (2, 1), (20, 10), (6, 1), (30, 3), (118, 14)] (by exact rfl) (by decide +kernel)) (goodIn_sub (fun _ h => List.mem_cons_of_mem _ (List.mem_append_right _ h)) (by decide +kernel))
set_option maxRecDepth 20000 in
theorem gX7_apart_X7_needPlain : GoodIn wsX7_apart (wsV RX7 157 RX7 yX7_needPlain wsX7_needPlain) := goodIn_app (goodIn_of _ (by decide +kernel)) ggX7_apart_X7_needPlain
set_option maxRecDepth 20000 in
theorem ggX7_apart_X5_exploreTwo : GoodIn wsX7_apart wsX5_exploreTwo := goodIn_g _ [(37, 23), (6, 1), (60, 3), (29, 2), (63, 3), (36, 1), (66, 29), (132, 13), (126, 3), (145, 4), (129, 3)] (by exact rfl) (by decide +kernel)
set_option maxRecDepth 20000 in
theorem gX7_apart_X5_exploreTwo : GoodIn wsX7_apart (wsV RX7 175 RX5 yX5_exploreTwo wsX5_exploreTwo) := goodIn_app (goodIn_of _ (by decide +kernel)) ggX7_apart_X5_exploreTwo
set_option maxRecDepth 20000 in
theorem ggX7_apart_X7_needSets : GoodIn wsX7_apart wsX7_needSets := goodIn_ca (goodIn_g _ [(97, 1), (18, 2)] (by exact rfl) (by decide +kernel)) (goodIn_sub (fun _ h => List.mem_cons_of_mem _ (List.mem_append_right _ h)) (by decide +kernel))
set_option maxRecDepth 20000 in
theorem gX7_apart_X7_needSets : GoodIn wsX7_apart (va_wsS RX7 164 yX7_needSets wsX7_needSets) := goodIn_app (goodIn_of _ (by decide +kernel)) ggX7_apart_X7_needSets
set_option maxRecDepth 20000 in
theorem ggX7_apart_X5_firstWantedLetter : GoodIn wsX7_apart wsX5_firstWantedLetter := goodIn_g _ [(101, 1), (67, 1), (102, 3), (36, 1), (105, 1), (38, 1), (68, 1), (39, 1), (69, 1), (40, 1), (106, 3), (44, 1), (109, 1), (49, 1), (110, 4), (79, 2), (114, 4), (132, 17)] (by exact rfl) (by decide +kernel)
set_option maxRecDepth 20000 in
theorem gX7_apart_X5_firstWantedLetter : GoodIn wsX7_apart (wsV RX7 243 RX5 yX5_firstWantedLetter wsX5_firstWantedLetter) := goodIn_app (goodIn_of _ (by decide +kernel)) ggX7_apart_X5_firstWantedLetter
theorem dX7_apart_0 : decode cX7_apart 0 = .ok (.aload_n 0, 1) := by decide +kernel
theorem dX7_apart_1 : decode cX7_apart 1 = .ok (.iload_n 1, 1) := by decide +kernel
theorem dX7_apart_2 : decode cX7_apart 2 = .ok (.invokevirtual 92, 3) := by decide +kernel
theorem dX7_apart_5 : decode cX7_apart 5 = .ok (.aload_n 0, 1) := by decide +kernel
theorem dX7_apart_6 : decode cX7_apart 6 = .ok (.iload_n 2, 1) := by decide +kernel
theorem dX7_apart_7 : decode cX7_apart 7 = .ok (.invokevirtual 92, 3) := by decide +kernel
theorem dX7_apart_10 : decode cX7_apart 10 = .ok (.iload_n 3, 1) := by decide +kernel
theorem dX7_apart_11 : decode cX7_apart 11 = .ok (.invokestatic 221, 3) := by decide +kernel
theorem dX7_apart_14 : decode cX7_apart 14 = .ok (.aload_n 0, 1) := by decide +kernel
theorem dX7_apart_15 : decode cX7_apart 15 = .ok (.iload_n 1, 1) := by decide +kernel
theorem dX7_apart_16 : decode cX7_apart 16 = .ok (.invokevirtual 157, 3) := by decide +kernel
theorem dX7_apart_19 : decode cX7_apart 19 = .ok (.aload_n 0, 1) := by decide +kernel
theorem dX7_apart_20 : decode cX7_apart 20 = .ok (.iload_n 2, 1) := by decide +kernel
theorem dX7_apart_21 : decode cX7_apart 21 = .ok (.invokevirtual 157, 3) := by decide +kernel
theorem dX7_apart_24 : decode cX7_apart 24 = .ok (.aload_n 0, 1) := by decide +kernel
theorem dX7_apart_25 : decode cX7_apart 25 = .ok (.getfield 37, 3) := by decide +kernel
theorem dX7_apart_28 : decode cX7_apart 28 = .ok (.aload_n 0, 1) := by decide +kernel
theorem dX7_apart_29 : decode cX7_apart 29 = .ok (.getfield 19, 3) := by decide +kernel
theorem dX7_apart_32 : decode cX7_apart 32 = .ok (.iload_n 1, 1) := by decide +kernel
theorem dX7_apart_33 : decode cX7_apart 33 = .ok (.aaload, 1) := by decide +kernel
theorem dX7_apart_34 : decode cX7_apart 34 = .ok (.aload_n 0, 1) := by decide +kernel
theorem dX7_apart_35 : decode cX7_apart 35 = .ok (.getfield 19, 3) := by decide +kernel
theorem dX7_apart_38 : decode cX7_apart 38 = .ok (.iload_n 2, 1) := by decide +kernel
theorem dX7_apart_39 : decode cX7_apart 39 = .ok (.aaload, 1) := by decide +kernel
theorem dX7_apart_40 : decode cX7_apart 40 = .ok (.iconst 2, 1) := by decide +kernel
theorem dX7_apart_41 : decode cX7_apart 41 = .ok (.invokevirtual 175, 3) := by decide +kernel
theorem dX7_apart_44 : decode cX7_apart 44 = .ok (.invokestatic 164, 3) := by decide +kernel
theorem dX7_apart_47 : decode cX7_apart 47 = .ok (.aload_n 0, 1) := by decide +kernel
theorem dX7_apart_48 : decode cX7_apart 48 = .ok (.getfield 37, 3) := by decide +kernel
theorem dX7_apart_51 : decode cX7_apart 51 = .ok (.iload_n 3, 1) := by decide +kernel
theorem dX7_apart_52 : decode cX7_apart 52 = .ok (.invokevirtual 243, 3) := by decide +kernel
theorem dX7_apart_55 : decode cX7_apart 55 = .ok (.ireturn, 1) := by decide +kernel
set_option maxRecDepth 20000 in
theorem ggX7_ruled_X7_needPlace : GoodIn wsX7_ruled wsX7_needPlace := goodIn_ca (goodIn_g _ [(6, 3)] (by exact rfl) (by decide +kernel)) (goodIn_sub (fun _ h => List.mem_cons_of_mem _ (List.mem_append_left _ (List.mem_append_right _ h))) (by decide +kernel))
set_option maxRecDepth 20000 in
theorem gX7_ruled_X7_needPlace : GoodIn wsX7_ruled (va_wsS RX7 221 yX7_needPlace wsX7_needPlace) := goodIn_app (goodIn_of _ (by decide +kernel)) ggX7_ruled_X7_needPlace
set_option maxRecDepth 20000 in
theorem ggX7_ruled_X7_needRule : GoodIn wsX7_ruled wsX7_needRule := goodIn_ca (goodIn_g _ [(11, 5), (5, 1), (16, 7)] (by exact rfl) (by decide +kernel)) (goodIn_sub (fun _ h => List.mem_cons_of_mem _ (List.mem_append_right _ h)) (by decide +kernel))
set_option maxRecDepth 20000 in
theorem gX7_ruled_X7_needRule : GoodIn wsX7_ruled (va_wsS RX7 179 yX7_needRule wsX7_needRule) := goodIn_app (goodIn_of _ (by decide +kernel)) ggX7_ruled_X7_needRule
set_option maxRecDepth 20000 in
theorem ggX7_ruled_X7_isRewritten : GoodIn wsX7_ruled wsX7_isRewritten := goodIn_g _ [(26, 1), (2, 1), (1, 1), (27, 8)] (by exact rfl) (by decide +kernel)
set_option maxRecDepth 20000 in
theorem gX7_ruled_X7_isRewritten : GoodIn wsX7_ruled (wsV RX7 246 RX7 yX7_isRewritten wsX7_isRewritten) := goodIn_app (goodIn_of _ (by decide +kernel)) ggX7_ruled_X7_isRewritten
theorem dX7_ruled_0 : decode cX7_ruled 0 = .ok (.iload 5, 2) := by decide +kernel
theorem dX7_ruled_2 : decode cX7_ruled 2 = .ok (.invokestatic 221, 3) := by decide +kernel
theorem dX7_ruled_5 : decode cX7_ruled 5 = .ok (.iload_n 1, 1) := by decide +kernel
theorem dX7_ruled_6 : decode cX7_ruled 6 = .ok (.iload_n 2, 1) := by decide +kernel
theorem dX7_ruled_7 : decode cX7_ruled 7 = .ok (.iload_n 3, 1) := by decide +kernel
theorem dX7_ruled_8 : decode cX7_ruled 8 = .ok (.iload 4, 2) := by decide +kernel
theorem dX7_ruled_10 : decode cX7_ruled 10 = .ok (.invokestatic 179, 3) := by decide +kernel
theorem dX7_ruled_13 : decode cX7_ruled 13 = .ok (.iconst 0, 1) := by decide +kernel
theorem dX7_ruled_14 : decode cX7_ruled 14 = .ok (.istore 6, 2) := by decide +kernel
theorem dX7_ruled_16 : decode cX7_ruled 16 = .ok (.iconst 0, 1) := by decide +kernel
theorem dX7_ruled_17 : decode cX7_ruled 17 = .ok (.istore 7, 2) := by decide +kernel
theorem dX7_ruled_19 : decode cX7_ruled 19 = .ok (.iload 7, 2) := by decide +kernel
theorem dX7_ruled_21 : decode cX7_ruled 21 = .ok (.aload_n 0, 1) := by decide +kernel
theorem dX7_ruled_22 : decode cX7_ruled 22 = .ok (.getfield 13, 3) := by decide +kernel
theorem dX7_ruled_25 : decode cX7_ruled 25 = .ok (.if_icmp .ge 55, 3) := by decide +kernel
theorem dX7_ruled_28 : decode cX7_ruled 28 = .ok (.aload_n 0, 1) := by decide +kernel
theorem dX7_ruled_29 : decode cX7_ruled 29 = .ok (.iload 7, 2) := by decide +kernel
theorem dX7_ruled_31 : decode cX7_ruled 31 = .ok (.iload_n 1, 1) := by decide +kernel
theorem dX7_ruled_32 : decode cX7_ruled 32 = .ok (.iload_n 3, 1) := by decide +kernel
theorem dX7_ruled_33 : decode cX7_ruled 33 = .ok (.iload 4, 2) := by decide +kernel
theorem dX7_ruled_35 : decode cX7_ruled 35 = .ok (.invokevirtual 246, 3) := by decide +kernel
theorem dX7_ruled_38 : decode cX7_ruled 38 = .ok (.ifCond .eq 7, 3) := by decide +kernel
theorem dX7_ruled_41 : decode cX7_ruled 41 = .ok (.iload_n 2, 1) := by decide +kernel
theorem dX7_ruled_42 : decode cX7_ruled 42 = .ok (.goto 10, 3) := by decide +kernel
theorem dX7_ruled_45 : decode cX7_ruled 45 = .ok (.aload_n 0, 1) := by decide +kernel
theorem dX7_ruled_46 : decode cX7_ruled 46 = .ok (.getfield 9, 3) := by decide +kernel
theorem dX7_ruled_49 : decode cX7_ruled 49 = .ok (.iload 7, 2) := by decide +kernel
theorem dX7_ruled_51 : decode cX7_ruled 51 = .ok (.iaload, 1) := by decide +kernel
theorem dX7_ruled_52 : decode cX7_ruled 52 = .ok (.istore 8, 2) := by decide +kernel
theorem dX7_ruled_54 : decode cX7_ruled 54 = .ok (.iload 8, 2) := by decide +kernel
theorem dX7_ruled_56 : decode cX7_ruled 56 = .ok (.bipush 8, 2) := by decide +kernel
theorem dX7_ruled_58 : decode cX7_ruled 58 = .ok (.if_icmp .eq 16, 3) := by decide +kernel
theorem dX7_ruled_61 : decode cX7_ruled 61 = .ok (.iload 6, 2) := by decide +kernel
theorem dX7_ruled_63 : decode cX7_ruled 63 = .ok (.iload 5, 2) := by decide +kernel
theorem dX7_ruled_65 : decode cX7_ruled 65 = .ok (.if_icmp .ne 6, 3) := by decide +kernel
theorem dX7_ruled_68 : decode cX7_ruled 68 = .ok (.iload 8, 2) := by decide +kernel
theorem dX7_ruled_70 : decode cX7_ruled 70 = .ok (.ireturn, 1) := by decide +kernel
theorem dX7_ruled_71 : decode cX7_ruled 71 = .ok (.iinc 6 1, 3) := by decide +kernel
theorem dX7_ruled_74 : decode cX7_ruled 74 = .ok (.iinc 7 1, 3) := by decide +kernel
theorem dX7_ruled_77 : decode cX7_ruled 77 = .ok (.goto (-58), 3) := by decide +kernel
theorem dX7_ruled_80 : decode cX7_ruled 80 = .ok (.bipush 8, 2) := by decide +kernel
theorem dX7_ruled_82 : decode cX7_ruled 82 = .ok (.ireturn, 1) := by decide +kernel
theorem dX7_isLetter_0 : decode cX7_isLetter 0 = .ok (.iload_n 0, 1) := by decide +kernel
theorem dX7_isLetter_1 : decode cX7_isLetter 1 = .ok (.ifCond .lt 13, 3) := by decide +kernel
theorem dX7_isLetter_4 : decode cX7_isLetter 4 = .ok (.iload_n 0, 1) := by decide +kernel
theorem dX7_isLetter_5 : decode cX7_isLetter 5 = .ok (.bipush 8, 2) := by decide +kernel
theorem dX7_isLetter_7 : decode cX7_isLetter 7 = .ok (.if_icmp .ge 7, 3) := by decide +kernel
theorem dX7_isLetter_10 : decode cX7_isLetter 10 = .ok (.iconst 1, 1) := by decide +kernel
theorem dX7_isLetter_11 : decode cX7_isLetter 11 = .ok (.goto 4, 3) := by decide +kernel
theorem dX7_isLetter_14 : decode cX7_isLetter 14 = .ok (.iconst 0, 1) := by decide +kernel
theorem dX7_isLetter_15 : decode cX7_isLetter 15 = .ok (.ireturn, 1) := by decide +kernel
set_option maxRecDepth 20000 in
theorem ggX7_isLetterOrEmpty_X7_isLetter : GoodIn wsX7_isLetterOrEmpty wsX7_isLetter := goodIn_g _ [(4, 1)] (by exact rfl) (by decide +kernel)
set_option maxRecDepth 20000 in
theorem gX7_isLetterOrEmpty_X7_isLetter : GoodIn wsX7_isLetterOrEmpty (va_wsS RX7 55 yX7_isLetter wsX7_isLetter) := goodIn_app (goodIn_of _ (by decide +kernel)) ggX7_isLetterOrEmpty_X7_isLetter
theorem dX7_isLetterOrEmpty_0 : decode cX7_isLetterOrEmpty 0 = .ok (.iload_n 0, 1) := by decide +kernel
theorem dX7_isLetterOrEmpty_1 : decode cX7_isLetterOrEmpty 1 = .ok (.invokestatic 55, 3) := by decide +kernel
theorem dX7_isLetterOrEmpty_4 : decode cX7_isLetterOrEmpty 4 = .ok (.ifCond .ne 9, 3) := by decide +kernel
theorem dX7_isLetterOrEmpty_7 : decode cX7_isLetterOrEmpty 7 = .ok (.iload_n 0, 1) := by decide +kernel
theorem dX7_isLetterOrEmpty_8 : decode cX7_isLetterOrEmpty 8 = .ok (.bipush 8, 2) := by decide +kernel
theorem dX7_isLetterOrEmpty_10 : decode cX7_isLetterOrEmpty 10 = .ok (.if_icmp .ne 7, 3) := by decide +kernel
theorem dX7_isLetterOrEmpty_13 : decode cX7_isLetterOrEmpty 13 = .ok (.iconst 1, 1) := by decide +kernel
theorem dX7_isLetterOrEmpty_14 : decode cX7_isLetterOrEmpty 14 = .ok (.goto 4, 3) := by decide +kernel
theorem dX7_isLetterOrEmpty_17 : decode cX7_isLetterOrEmpty 17 = .ok (.iconst 0, 1) := by decide +kernel
theorem dX7_isLetterOrEmpty_18 : decode cX7_isLetterOrEmpty 18 = .ok (.ireturn, 1) := by decide +kernel
set_option maxRecDepth 20000 in
theorem ggX7_isLetterOrAny_X7_isLetter : GoodIn wsX7_isLetterOrAny wsX7_isLetter := goodIn_g _ [(4, 1)] (by exact rfl) (by decide +kernel)
set_option maxRecDepth 20000 in
theorem gX7_isLetterOrAny_X7_isLetter : GoodIn wsX7_isLetterOrAny (va_wsS RX7 55 yX7_isLetter wsX7_isLetter) := goodIn_app (goodIn_of _ (by decide +kernel)) ggX7_isLetterOrAny_X7_isLetter
theorem dX7_isLetterOrAny_0 : decode cX7_isLetterOrAny 0 = .ok (.iload_n 0, 1) := by decide +kernel
theorem dX7_isLetterOrAny_1 : decode cX7_isLetterOrAny 1 = .ok (.invokestatic 55, 3) := by decide +kernel
theorem dX7_isLetterOrAny_4 : decode cX7_isLetterOrAny 4 = .ok (.ifCond .ne 8, 3) := by decide +kernel
theorem dX7_isLetterOrAny_7 : decode cX7_isLetterOrAny 7 = .ok (.iload_n 0, 1) := by decide +kernel
theorem dX7_isLetterOrAny_8 : decode cX7_isLetterOrAny 8 = .ok (.iconst (-1), 1) := by decide +kernel
theorem dX7_isLetterOrAny_9 : decode cX7_isLetterOrAny 9 = .ok (.if_icmp .ne 7, 3) := by decide +kernel
theorem dX7_isLetterOrAny_12 : decode cX7_isLetterOrAny 12 = .ok (.iconst 1, 1) := by decide +kernel
theorem dX7_isLetterOrAny_13 : decode cX7_isLetterOrAny 13 = .ok (.goto 4, 3) := by decide +kernel
theorem dX7_isLetterOrAny_16 : decode cX7_isLetterOrAny 16 = .ok (.iconst 0, 1) := by decide +kernel
theorem dX7_isLetterOrAny_17 : decode cX7_isLetterOrAny 17 = .ok (.ireturn, 1) := by decide +kernel
set_option maxRecDepth 20000 in
theorem ggX7_needRule_X7_isLetter : GoodIn wsX7_needRule wsX7_isLetter := goodIn_g _ [(6, 1)] (by exact rfl) (by decide +kernel)
set_option maxRecDepth 20000 in
theorem gX7_needRule_X7_isLetter : GoodIn wsX7_needRule (va_wsS RX7 55 yX7_isLetter wsX7_isLetter) := goodIn_app (goodIn_of _ (by decide +kernel)) ggX7_needRule_X7_isLetter
set_option maxRecDepth 20000 in
theorem ggX7_needRule_X7_isLetterOrEmpty : GoodIn wsX7_needRule wsX7_isLetterOrEmpty := goodIn_g _ [(9, 1), (3, 4)] (by exact rfl) (by decide +kernel)
set_option maxRecDepth 20000 in
theorem gX7_needRule_X7_isLetterOrEmpty : GoodIn wsX7_needRule (va_wsS RX7 71 yX7_isLetterOrEmpty wsX7_isLetterOrEmpty) := goodIn_app (goodIn_of _ (by decide +kernel)) ggX7_needRule_X7_isLetterOrEmpty
set_option maxRecDepth 20000 in
theorem ggX7_needRule_X7_isLetterOrAny : GoodIn wsX7_needRule wsX7_isLetterOrAny := goodIn_g _ [(12, 1), (3, 4)] (by exact rfl) (by decide +kernel)
set_option maxRecDepth 20000 in
theorem gX7_needRule_X7_isLetterOrAny : GoodIn wsX7_needRule (va_wsS RX7 263 yX7_isLetterOrAny wsX7_isLetterOrAny) := goodIn_app (goodIn_of _ (by decide +kernel)) ggX7_needRule_X7_isLetterOrAny
theorem dX7_needRule_0 : decode cX7_needRule 0 = .ok (.iload_n 0, 1) := by decide +kernel
theorem dX7_needRule_1 : decode cX7_needRule 1 = .ok (.invokestatic 55, 3) := by decide +kernel
theorem dX7_needRule_4 : decode cX7_needRule 4 = .ok (.ifCond .eq 24, 3) := by decide +kernel
theorem dX7_needRule_7 : decode cX7_needRule 7 = .ok (.iload_n 1, 1) := by decide +kernel
theorem dX7_needRule_8 : decode cX7_needRule 8 = .ok (.invokestatic 71, 3) := by decide +kernel
theorem dX7_needRule_11 : decode cX7_needRule 11 = .ok (.ifCond .eq 17, 3) := by decide +kernel
theorem dX7_needRule_14 : decode cX7_needRule 14 = .ok (.iload_n 2, 1) := by decide +kernel
theorem dX7_needRule_15 : decode cX7_needRule 15 = .ok (.invokestatic 263, 3) := by decide +kernel
theorem dX7_needRule_18 : decode cX7_needRule 18 = .ok (.ifCond .eq 10, 3) := by decide +kernel
theorem dX7_needRule_21 : decode cX7_needRule 21 = .ok (.iload_n 3, 1) := by decide +kernel
theorem dX7_needRule_22 : decode cX7_needRule 22 = .ok (.invokestatic 263, 3) := by decide +kernel
theorem dX7_needRule_25 : decode cX7_needRule 25 = .ok (.ifCond .ne 14, 3) := by decide +kernel
theorem dX7_needRule_28 : decode cX7_needRule 28 = .ok (.new 59, 3) := by decide +kernel
theorem dX7_needRule_31 : decode cX7_needRule 31 = .ok (.dup, 1) := by decide +kernel
theorem dX7_needRule_32 : decode cX7_needRule 32 = .ok (.ldc_w 266, 3) := by decide +kernel
theorem dX7_needRule_35 : decode cX7_needRule 35 = .ok (.invokespecial 63, 3) := by decide +kernel
theorem dX7_needRule_38 : decode cX7_needRule 38 = .ok (.athrow, 1) := by decide +kernel
theorem dX7_needRule_39 : decode cX7_needRule 39 = .ok (.return_, 1) := by decide +kernel
theorem dX7_needPlace_0 : decode cX7_needPlace 0 = .ok (.iload_n 0, 1) := by decide +kernel
theorem dX7_needPlace_1 : decode cX7_needPlace 1 = .ok (.ifCond .ge 14, 3) := by decide +kernel
theorem dX7_needPlace_4 : decode cX7_needPlace 4 = .ok (.new 201, 3) := by decide +kernel
theorem dX7_needPlace_7 : decode cX7_needPlace 7 = .ok (.dup, 1) := by decide +kernel
theorem dX7_needPlace_8 : decode cX7_needPlace 8 = .ok (.ldc_w 268, 3) := by decide +kernel
theorem dX7_needPlace_11 : decode cX7_needPlace 11 = .ok (.invokespecial 205, 3) := by decide +kernel
theorem dX7_needPlace_14 : decode cX7_needPlace 14 = .ok (.athrow, 1) := by decide +kernel
theorem dX7_needPlace_15 : decode cX7_needPlace 15 = .ok (.return_, 1) := by decide +kernel
theorem dX7_needSets_0 : decode cX7_needSets 0 = .ok (.iload_n 0, 1) := by decide +kernel
theorem dX7_needSets_1 : decode cX7_needSets 1 = .ok (.ifCond .ne 14, 3) := by decide +kernel
theorem dX7_needSets_4 : decode cX7_needSets 4 = .ok (.new 66, 3) := by decide +kernel
theorem dX7_needSets_7 : decode cX7_needSets 7 = .ok (.dup, 1) := by decide +kernel
theorem dX7_needSets_8 : decode cX7_needSets 8 = .ok (.ldc_w 270, 3) := by decide +kernel
theorem dX7_needSets_11 : decode cX7_needSets 11 = .ok (.invokespecial 70, 3) := by decide +kernel
theorem dX7_needSets_14 : decode cX7_needSets 14 = .ok (.athrow, 1) := by decide +kernel
theorem dX7_needSets_15 : decode cX7_needSets 15 = .ok (.return_, 1) := by decide +kernel
theorem dX7_needStates_0 : decode cX7_needStates 0 = .ok (.iload_n 0, 1) := by decide +kernel
theorem dX7_needStates_1 : decode cX7_needStates 1 = .ok (.ifCond .ne 14, 3) := by decide +kernel
theorem dX7_needStates_4 : decode cX7_needStates 4 = .ok (.new 66, 3) := by decide +kernel
theorem dX7_needStates_7 : decode cX7_needStates 7 = .ok (.dup, 1) := by decide +kernel
theorem dX7_needStates_8 : decode cX7_needStates 8 = .ok (.ldc_w 272, 3) := by decide +kernel
theorem dX7_needStates_11 : decode cX7_needStates 11 = .ok (.invokespecial 70, 3) := by decide +kernel
theorem dX7_needStates_14 : decode cX7_needStates 14 = .ok (.athrow, 1) := by decide +kernel
theorem dX7_needStates_15 : decode cX7_needStates 15 = .ok (.return_, 1) := by decide +kernel
theorem dX7_needMachine_0 : decode cX7_needMachine 0 = .ok (.iload_n 1, 1) := by decide +kernel
theorem dX7_needMachine_1 : decode cX7_needMachine 1 = .ok (.ifCond .lt 11, 3) := by decide +kernel
theorem dX7_needMachine_4 : decode cX7_needMachine 4 = .ok (.iload_n 1, 1) := by decide +kernel
theorem dX7_needMachine_5 : decode cX7_needMachine 5 = .ok (.aload_n 0, 1) := by decide +kernel
theorem dX7_needMachine_6 : decode cX7_needMachine 6 = .ok (.getfield 24, 3) := by decide +kernel
theorem dX7_needMachine_9 : decode cX7_needMachine 9 = .ok (.if_icmp .lt 14, 3) := by decide +kernel
theorem dX7_needMachine_12 : decode cX7_needMachine 12 = .ok (.new 201, 3) := by decide +kernel
theorem dX7_needMachine_15 : decode cX7_needMachine 15 = .ok (.dup, 1) := by decide +kernel
theorem dX7_needMachine_16 : decode cX7_needMachine 16 = .ok (.ldc_w 274, 3) := by decide +kernel
theorem dX7_needMachine_19 : decode cX7_needMachine 19 = .ok (.invokespecial 205, 3) := by decide +kernel
theorem dX7_needMachine_22 : decode cX7_needMachine 22 = .ok (.athrow, 1) := by decide +kernel
theorem dX7_needMachine_23 : decode cX7_needMachine 23 = .ok (.return_, 1) := by decide +kernel
set_option maxRecDepth 20000 in
theorem ggX7_needPlain_X3_hasPlainArcsAlone : GoodIn wsX7_needPlain wsX3_hasPlainArcsAlone := goodIn_g _ [(8, 10), (26, 6)] (by exact rfl) (by decide +kernel)
set_option maxRecDepth 20000 in
theorem gX7_needPlain_X3_hasPlainArcsAlone : GoodIn wsX7_needPlain (wsV RX7 217 RX3 yX3_hasPlainArcsAlone wsX3_hasPlainArcsAlone) := goodIn_app (goodIn_of _ (by decide +kernel)) ggX7_needPlain_X3_hasPlainArcsAlone
theorem dX7_needPlain_0 : decode cX7_needPlain 0 = .ok (.aload_n 0, 1) := by decide +kernel
theorem dX7_needPlain_1 : decode cX7_needPlain 1 = .ok (.getfield 19, 3) := by decide +kernel
theorem dX7_needPlain_4 : decode cX7_needPlain 4 = .ok (.iload_n 1, 1) := by decide +kernel
theorem dX7_needPlain_5 : decode cX7_needPlain 5 = .ok (.aaload, 1) := by decide +kernel
theorem dX7_needPlain_6 : decode cX7_needPlain 6 = .ok (.invokevirtual 217, 3) := by decide +kernel
theorem dX7_needPlain_9 : decode cX7_needPlain 9 = .ok (.ifCond .ne 14, 3) := by decide +kernel
theorem dX7_needPlain_12 : decode cX7_needPlain 12 = .ok (.new 66, 3) := by decide +kernel
theorem dX7_needPlain_15 : decode cX7_needPlain 15 = .ok (.dup, 1) := by decide +kernel
theorem dX7_needPlain_16 : decode cX7_needPlain 16 = .ok (.ldc_w 276, 3) := by decide +kernel
theorem dX7_needPlain_19 : decode cX7_needPlain 19 = .ok (.invokespecial 70, 3) := by decide +kernel
theorem dX7_needPlain_22 : decode cX7_needPlain 22 = .ok (.athrow, 1) := by decide +kernel
theorem dX7_needPlain_23 : decode cX7_needPlain 23 = .ok (.return_, 1) := by decide +kernel
set_option maxRecDepth 20000 in
theorem ggX7_keepDraft_X1_trimInto : GoodIn wsX7_keepDraft wsX1_trimInto := goodIn_g _ [(10, 10), (9, 1), (20, 77), (105, 19)] (by exact rfl) (by decide +kernel)
set_option maxRecDepth 20000 in
theorem gX7_keepDraft_X1_trimInto : GoodIn wsX7_keepDraft (wsV RX7 280 RX1 yX1_trimInto wsX1_trimInto) := goodIn_app (goodIn_of _ (by decide +kernel)) ggX7_keepDraft_X1_trimInto
theorem dX7_keepDraft_0 : decode cX7_keepDraft 0 = .ok (.aload_n 0, 1) := by decide +kernel
theorem dX7_keepDraft_1 : decode cX7_keepDraft 1 = .ok (.getfield 24, 3) := by decide +kernel
theorem dX7_keepDraft_4 : decode cX7_keepDraft 4 = .ok (.bipush 24, 2) := by decide +kernel
theorem dX7_keepDraft_6 : decode cX7_keepDraft 6 = .ok (.if_icmp .lt 14, 3) := by decide +kernel
theorem dX7_keepDraft_9 : decode cX7_keepDraft 9 = .ok (.new 66, 3) := by decide +kernel
theorem dX7_keepDraft_12 : decode cX7_keepDraft 12 = .ok (.dup, 1) := by decide +kernel
theorem dX7_keepDraft_13 : decode cX7_keepDraft 13 = .ok (.ldc_w 278, 3) := by decide +kernel
theorem dX7_keepDraft_16 : decode cX7_keepDraft 16 = .ok (.invokespecial 70, 3) := by decide +kernel
theorem dX7_keepDraft_19 : decode cX7_keepDraft 19 = .ok (.athrow, 1) := by decide +kernel
theorem dX7_keepDraft_20 : decode cX7_keepDraft 20 = .ok (.aload_n 0, 1) := by decide +kernel
theorem dX7_keepDraft_21 : decode cX7_keepDraft 21 = .ok (.getfield 30, 3) := by decide +kernel
theorem dX7_keepDraft_24 : decode cX7_keepDraft 24 = .ok (.aload_n 0, 1) := by decide +kernel
theorem dX7_keepDraft_25 : decode cX7_keepDraft 25 = .ok (.getfield 19, 3) := by decide +kernel
theorem dX7_keepDraft_28 : decode cX7_keepDraft 28 = .ok (.aload_n 0, 1) := by decide +kernel
theorem dX7_keepDraft_29 : decode cX7_keepDraft 29 = .ok (.getfield 24, 3) := by decide +kernel
theorem dX7_keepDraft_32 : decode cX7_keepDraft 32 = .ok (.aaload, 1) := by decide +kernel
theorem dX7_keepDraft_33 : decode cX7_keepDraft 33 = .ok (.invokevirtual 280, 3) := by decide +kernel
theorem dX7_keepDraft_36 : decode cX7_keepDraft 36 = .ok (.ifCond .ne 14, 3) := by decide +kernel
theorem dX7_keepDraft_39 : decode cX7_keepDraft 39 = .ok (.new 66, 3) := by decide +kernel
theorem dX7_keepDraft_42 : decode cX7_keepDraft 42 = .ok (.dup, 1) := by decide +kernel
theorem dX7_keepDraft_43 : decode cX7_keepDraft 43 = .ok (.ldc_w 283, 3) := by decide +kernel
theorem dX7_keepDraft_46 : decode cX7_keepDraft 46 = .ok (.invokespecial 70, 3) := by decide +kernel
theorem dX7_keepDraft_49 : decode cX7_keepDraft 49 = .ok (.athrow, 1) := by decide +kernel
theorem dX7_keepDraft_50 : decode cX7_keepDraft 50 = .ok (.aload_n 0, 1) := by decide +kernel
theorem dX7_keepDraft_51 : decode cX7_keepDraft 51 = .ok (.dup, 1) := by decide +kernel
theorem dX7_keepDraft_52 : decode cX7_keepDraft 52 = .ok (.getfield 24, 3) := by decide +kernel
theorem dX7_keepDraft_55 : decode cX7_keepDraft 55 = .ok (.iconst 1, 1) := by decide +kernel
theorem dX7_keepDraft_56 : decode cX7_keepDraft 56 = .ok (.iadd, 1) := by decide +kernel
theorem dX7_keepDraft_57 : decode cX7_keepDraft 57 = .ok (.putfield 24, 3) := by decide +kernel
theorem dX7_keepDraft_60 : decode cX7_keepDraft 60 = .ok (.aload_n 0, 1) := by decide +kernel
theorem dX7_keepDraft_61 : decode cX7_keepDraft 61 = .ok (.getfield 24, 3) := by decide +kernel
theorem dX7_keepDraft_64 : decode cX7_keepDraft 64 = .ok (.iconst 1, 1) := by decide +kernel
theorem dX7_keepDraft_65 : decode cX7_keepDraft 65 = .ok (.isub, 1) := by decide +kernel
theorem dX7_keepDraft_66 : decode cX7_keepDraft 66 = .ok (.ireturn, 1) := by decide +kernel
set_option maxRecDepth 20000 in
theorem ggX7_addMeetings_X7_lowerOf : GoodIn wsX7_addMeetings wsX7_lowerOf := goodIn_g _ [(11, 1)] (by exact rfl) (by decide +kernel)
set_option maxRecDepth 20000 in
theorem gX7_addMeetings_X7_lowerOf : GoodIn wsX7_addMeetings (va_wsS RX7 129 yX7_lowerOf wsX7_lowerOf) := goodIn_app (goodIn_of _ (by decide +kernel)) ggX7_addMeetings_X7_lowerOf
set_option maxRecDepth 20000 in
theorem ggX7_addMeetings_X7_upperOf : GoodIn wsX7_addMeetings wsX7_upperOf := goodIn_g _ [(14, 1)] (by exact rfl) (by decide +kernel)
set_option maxRecDepth 20000 in
theorem gX7_addMeetings_X7_upperOf : GoodIn wsX7_addMeetings (va_wsS RX7 132 yX7_upperOf wsX7_upperOf) := goodIn_app (goodIn_of _ (by decide +kernel)) ggX7_addMeetings_X7_upperOf
set_option maxRecDepth 20000 in
theorem ggX7_addMeetings_X7_fromOf : GoodIn wsX7_addMeetings wsX7_fromOf := goodIn_g _ [(17, 1)] (by exact rfl) (by decide +kernel)
