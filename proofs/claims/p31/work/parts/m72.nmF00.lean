set_option maxRecDepth 20000 in
theorem ggL_asks_X7_pair : GoodIn wsL_asks wsX7_pair := goodIn_ca (goodIn_ca (goodIn_g _ [(5, 6), (4, 1), (11, 115), (406, 27)] (by exact rfl) (by decide +kernel)) (goodIn_sub (fun _ h => List.mem_cons_of_mem _ (List.mem_append_left _ (List.mem_append_left _ (List.mem_append_right _ h)))) (by decide +kernel))) (goodIn_sub (fun _ h => List.mem_cons_of_mem _ (List.mem_append_left _ (List.mem_append_right _ h))) (by decide +kernel))
set_option maxRecDepth 20000 in
theorem gL_asks_X7_pair : GoodIn wsL_asks (wsV RL 7 RX7 yX7_pair wsX7_pair) := goodIn_app (goodIn_of _ (by decide +kernel)) ggL_asks_X7_pair
set_option maxRecDepth 20000 in
theorem ggL_asks_X7_word : GoodIn wsL_asks wsX7_word := goodIn_ca (goodIn_g _ [(129, 1), (8, 1), (130, 2), (15, 20), (4, 1), (35, 91), (406, 27)] (by exact rfl) (by decide +kernel)) (goodIn_sub (fun _ h => List.mem_cons_of_mem _ (List.mem_append_left _ (List.mem_append_right _ h))) (by decide +kernel))
set_option maxRecDepth 20000 in
theorem gL_asks_X7_word : GoodIn wsL_asks (wsV RL 13 RX7 yX7_word wsX7_word) := goodIn_app (goodIn_of _ (by decide +kernel)) ggL_asks_X7_word
set_option maxRecDepth 20000 in
theorem ggL_asks_X7_any : GoodIn wsL_asks wsX7_any := goodIn_ca (goodIn_g _ [(135, 1), (8, 1), (15, 20), (4, 1), (35, 91), (406, 27)] (by exact rfl) (by decide +kernel)) (goodIn_sub (fun _ h => List.mem_cons_of_mem _ (List.mem_append_left _ (List.mem_append_right _ h))) (by decide +kernel))
set_option maxRecDepth 20000 in
theorem gL_asks_X7_any : GoodIn wsL_asks (wsV RL 17 RX7 yX7_any wsX7_any) := goodIn_app (goodIn_of _ (by decide +kernel)) ggL_asks_X7_any
set_option maxRecDepth 20000 in
theorem ggL_asks_X7_join : GoodIn wsL_asks wsX7_join := goodIn_ca (goodIn_ca (goodIn_g _ [(139, 1), (47, 1), (8, 1), (140, 4), (4, 1), (144, 3), (46, 1), (15, 13), (147, 4), (54, 2), (108, 1), (121, 1), (69, 2), (122, 4), (71, 2), (151, 1), (29, 7), (152, 4), (52, 2), (156, 7), (37, 9), (48, 4), (56, 13), (73, 35), (109, 12), (406, 8), (427, 3), (414, 13), (430, 3)] (by exact rfl) (by decide +kernel)) (goodIn_sub (fun _ h => List.mem_cons_of_mem _ (List.mem_append_right _ h)) (by decide +kernel))) (goodIn_sub (fun _ h => List.mem_cons_of_mem _ (List.mem_append_left _ (List.mem_append_right _ h))) (by decide +kernel))
set_option maxRecDepth 20000 in
theorem gL_asks_X7_join : GoodIn wsL_asks (wsV RL 20 RX7 yX7_join wsX7_join) := goodIn_app (goodIn_of _ (by decide +kernel)) ggL_asks_X7_join
set_option maxRecDepth 20000 in
theorem ggL_asks_X7_unite : GoodIn wsL_asks wsX7_unite := goodIn_ca (goodIn_ca (goodIn_g _ [(166, 1), (47, 1), (140, 1), (8, 1), (141, 3), (4, 1), (144, 3), (46, 1), (15, 13), (147, 4), (54, 2), (108, 1), (121, 1), (69, 2), (122, 4), (71, 2), (151, 1), (29, 7), (158, 4), (52, 2), (156, 2), (162, 1), (37, 3), (28, 1), (40, 6), (48, 4), (56, 13), (73, 35), (109, 12), (406, 8), (427, 3), (414, 13), (430, 3)] (by exact rfl) (by decide +kernel)) (goodIn_sub (fun _ h => List.mem_cons_of_mem _ (List.mem_append_right _ h)) (by decide +kernel))) (goodIn_sub (fun _ h => List.mem_cons_of_mem _ (List.mem_append_left _ (List.mem_append_right _ h))) (by decide +kernel))
set_option maxRecDepth 20000 in
theorem gL_asks_X7_unite : GoodIn wsL_asks (wsV RL 24 RX7 yX7_unite wsX7_unite) := goodIn_app (goodIn_of _ (by decide +kernel)) ggL_asks_X7_unite
set_option maxRecDepth 20000 in
theorem ggL_asks_X7_repeat : GoodIn wsL_asks wsX7_repeat := goodIn_ca (goodIn_ca (goodIn_g _ [(170, 1), (44, 2), (47, 1), (140, 1), (8, 1), (141, 3), (4, 1), (144, 3), (46, 1), (171, 10), (122, 4), (69, 2), (156, 2), (71, 2), (15, 13), (147, 4), (54, 2), (108, 1), (121, 1), (151, 1), (29, 7), (28, 1), (152, 4), (52, 2), (36, 8), (48, 4), (56, 13), (73, 35), (109, 12), (406, 8), (427, 6), (414, 13)] (by exact rfl) (by decide +kernel)) (goodIn_sub (fun _ h => List.mem_cons_of_mem _ (List.mem_append_left _ (List.mem_append_right _ h))) (by decide +kernel))) (goodIn_sub (fun _ h => List.mem_cons_of_mem _ (List.mem_append_right _ h)) (by decide +kernel))
set_option maxRecDepth 20000 in
theorem gL_asks_X7_repeat : GoodIn wsL_asks (wsV RL 27 RX7 yX7_repeat wsX7_repeat) := goodIn_app (goodIn_of _ (by decide +kernel)) ggL_asks_X7_repeat
set_option maxRecDepth 20000 in
theorem ggL_asks_X7_turn : GoodIn wsL_asks wsX7_turn := goodIn_ca (goodIn_ca (goodIn_g _ [(184, 1), (47, 1), (8, 1), (140, 1), (185, 4), (141, 3), (4, 1), (144, 3), (46, 1), (15, 13), (189, 1), (69, 2), (190, 1), (124, 2), (191, 1), (122, 2), (192, 1), (71, 2), (28, 8), (158, 4), (52, 2), (156, 2), (162, 1), (37, 9), (48, 4), (54, 15), (73, 49), (406, 8), (427, 6), (414, 13)] (by exact rfl) (by decide +kernel)) (goodIn_sub (fun _ h => List.mem_cons_of_mem _ (List.mem_append_right _ h)) (by decide +kernel))) (goodIn_sub (fun _ h => List.mem_cons_of_mem _ (List.mem_append_left _ (List.mem_append_right _ h))) (by decide +kernel))
set_option maxRecDepth 20000 in
theorem gL_asks_X7_turn : GoodIn wsL_asks (wsV RL 31 RX7 yX7_turn wsX7_turn) := goodIn_app (goodIn_of _ (by decide +kernel)) ggL_asks_X7_turn
set_option maxRecDepth 20000 in
theorem ggL_asks_X7_compose : GoodIn wsL_asks wsX7_compose := goodIn_ca (goodIn_ca (goodIn_g _ [(196, 1), (44, 2), (47, 1), (8, 1), (140, 4), (4, 1), (144, 3), (46, 1), (15, 13), (197, 4), (185, 4), (201, 1), (190, 1), (124, 2), (191, 1), (122, 2), (189, 1), (69, 2), (192, 1), (71, 2), (28, 8), (202, 14), (156, 6), (52, 2), (162, 1), (37, 7), (48, 4), (54, 15), (73, 49), (406, 8), (427, 3), (414, 13), (430, 3)] (by exact rfl) (by decide +kernel)) (goodIn_sub (fun _ h => List.mem_cons_of_mem _ (List.mem_append_left _ (List.mem_append_right _ h))) (by decide +kernel))) (goodIn_sub (fun _ h => List.mem_cons_of_mem _ (List.mem_append_right _ h)) (by decide +kernel))
set_option maxRecDepth 20000 in
theorem gL_asks_X7_compose : GoodIn wsL_asks (wsV RL 34 RX7 yX7_compose wsX7_compose) := goodIn_app (goodIn_of _ (by decide +kernel)) ggL_asks_X7_compose
set_option maxRecDepth 20000 in
theorem ggL_asks_X7_side : GoodIn wsL_asks wsX7_side := goodIn_ca (goodIn_ca (goodIn_g _ [(219, 1), (47, 1), (8, 1), (140, 1), (185, 3), (141, 3), (4, 1), (144, 3), (46, 1), (15, 13), (191, 1), (122, 2), (190, 1), (124, 2), (189, 1), (69, 2), (192, 1), (71, 2), (28, 8), (158, 4), (52, 2), (156, 2), (162, 1), (37, 9), (48, 4), (54, 15), (73, 49), (406, 8), (427, 6), (414, 13)] (by exact rfl) (by decide +kernel)) (goodIn_sub (fun _ h => List.mem_cons_of_mem _ (List.mem_append_right _ h)) (by decide +kernel))) (goodIn_sub (fun _ h => List.mem_cons_of_mem _ (List.mem_append_left _ (List.mem_append_right _ h))) (by decide +kernel))
set_option maxRecDepth 20000 in
theorem gL_asks_X7_side : GoodIn wsL_asks (wsV RL 37 RX7 yX7_side wsX7_side) := goodIn_app (goodIn_of _ (by decide +kernel)) ggL_asks_X7_side
set_option maxRecDepth 20000 in
theorem ggL_asks_X7_least : GoodIn wsL_asks wsX7_least := goodIn_ca (goodIn_ca (goodIn_g _ [(223, 2), (47, 1), (8, 1), (141, 3), (4, 1), (144, 3), (46, 1), (225, 4), (44, 2), (229, 3), (174, 1), (232, 1), (177, 3), (233, 1), (122, 4), (234, 26), (69, 4), (260, 26), (156, 2), (286, 34), (16, 12), (320, 27), (37, 3), (347, 1), (29, 7), (348, 3), (40, 4), (48, 21), (73, 49), (406, 8), (427, 23), (414, 13)] (by exact rfl) (by decide +kernel)) (goodIn_sub (fun _ h => List.mem_cons_of_mem _ (List.mem_append_right _ h)) (by decide +kernel))) (goodIn_sub (fun _ h => List.mem_cons_of_mem _ (List.mem_append_left _ (List.mem_append_right _ h))) (by decide +kernel))
set_option maxRecDepth 20000 in
theorem gL_asks_X7_least : GoodIn wsL_asks (wsV RL 41 RX7 yX7_least wsX7_least) := goodIn_app (goodIn_of _ (by decide +kernel)) ggL_asks_X7_least
set_option maxRecDepth 20000 in
theorem ggL_asks_X7_meet : GoodIn wsL_asks wsX7_meet := goodIn_ca (goodIn_ca (goodIn_g _ [(354, 1), (224, 1), (47, 1), (8, 1), (141, 3), (4, 1), (144, 3), (46, 1), (225, 4), (44, 2), (229, 3), (174, 1), (232, 1), (177, 3), (233, 1), (122, 4), (355, 3), (237, 1), (358, 1), (239, 21), (69, 4), (264, 22), (156, 2), (286, 34), (16, 12), (320, 27), (37, 3), (347, 1), (29, 7), (348, 3), (40, 4), (48, 21), (73, 49), (406, 8), (427, 23), (414, 13)] (by exact rfl) (by decide +kernel)) (goodIn_sub (fun _ h => List.mem_cons_of_mem _ (List.mem_append_right _ h)) (by decide +kernel))) (goodIn_sub (fun _ h => List.mem_cons_of_mem _ (List.mem_append_left _ (List.mem_append_right _ h))) (by decide +kernel))
set_option maxRecDepth 20000 in
theorem gL_asks_X7_meet : GoodIn wsL_asks (wsV RL 44 RX7 yX7_meet wsX7_meet) := goodIn_app (goodIn_of _ (by decide +kernel)) ggL_asks_X7_meet
set_option maxRecDepth 20000 in
theorem ggL_asks_X7_rule : GoodIn wsL_asks wsX7_rule := goodIn_ca (goodIn_ca (goodIn_g _ [(362, 1), (44, 2), (8, 1), (363, 2), (4, 1), (365, 1), (6, 2), (12, 3), (9, 3), (366, 6), (15, 13), (372, 7), (28, 8), (379, 4), (36, 8), (46, 80), (406, 27)] (by exact rfl) (by decide +kernel)) (goodIn_sub (fun _ h => List.mem_cons_of_mem _ (List.mem_append_left _ (List.mem_append_right _ h))) (by decide +kernel))) (goodIn_sub (fun _ h => List.mem_cons_of_mem _ (List.mem_append_left _ (List.mem_append_left _ (List.mem_append_right _ h)))) (by decide +kernel))
set_option maxRecDepth 20000 in
theorem gL_asks_X7_rule : GoodIn wsL_asks (wsV RL 48 RX7 yX7_rule wsX7_rule) := goodIn_app (goodIn_of _ (by decide +kernel)) ggL_asks_X7_rule
set_option maxRecDepth 20000 in
theorem ggL_asks_X7_apart : GoodIn wsL_asks wsX7_apart := goodIn_ca (goodIn_ca (goodIn_g _ [(386, 1), (224, 1), (47, 1), (141, 3), (4, 1), (144, 3), (46, 1), (387, 3), (225, 4), (44, 2), (229, 3), (174, 1), (232, 1), (177, 3), (233, 1), (122, 4), (355, 3), (237, 1), (358, 1), (239, 21), (69, 4), (264, 22), (156, 2), (286, 11), (390, 4), (307, 8), (394, 8), (406, 8), (427, 23)] (by exact rfl) (by decide +kernel)) (goodIn_sub (fun _ h => List.mem_cons_of_mem _ (List.mem_append_right _ h)) (by decide +kernel))) (goodIn_sub (fun _ h => List.mem_cons_of_mem _ (List.mem_append_left _ (List.mem_append_right _ h))) (by decide +kernel))
set_option maxRecDepth 20000 in
theorem gL_asks_X7_apart : GoodIn wsL_asks (wsV RL 52 RX7 yX7_apart wsX7_apart) := goodIn_app (goodIn_of _ (by decide +kernel)) ggL_asks_X7_apart
set_option maxRecDepth 20000 in
theorem ggL_asks_X7_type : GoodIn wsL_asks wsX7_type := goodIn_ca (goodIn_ca (goodIn_g _ [(405, 1), (6, 2), (44, 2), (130, 2), (12, 2), (4, 1), (14, 1), (406, 8)] (by exact rfl) (by decide +kernel)) (goodIn_sub (fun _ h => List.mem_cons_of_mem _ (List.mem_append_left _ (List.mem_append_left _ (List.mem_append_right _ h)))) (by decide +kernel))) (goodIn_sub (fun _ h => List.mem_cons_of_mem _ (List.mem_append_left _ (List.mem_append_right _ h))) (by decide +kernel))
set_option maxRecDepth 20000 in
theorem gL_asks_X7_type : GoodIn wsL_asks (wsV RL 55 RX7 yX7_type wsX7_type) := goodIn_app (goodIn_of _ (by decide +kernel)) ggL_asks_X7_type
theorem dL_asks_0 : decode cL_asks 0 = .ok (.iload_n 1, 1) := by decide +kernel
theorem dL_asks_1 : decode cL_asks 1 = .ok (.ifCond .ne 14, 3) := by decide +kernel
theorem dL_asks_4 : decode cL_asks 4 = .ok (.aload_n 0, 1) := by decide +kernel
theorem dL_asks_5 : decode cL_asks 5 = .ok (.iload_n 2, 1) := by decide +kernel
theorem dL_asks_6 : decode cL_asks 6 = .ok (.iload_n 3, 1) := by decide +kernel
theorem dL_asks_7 : decode cL_asks 7 = .ok (.iload 4, 2) := by decide +kernel
theorem dL_asks_9 : decode cL_asks 9 = .ok (.invokevirtual 7, 3) := by decide +kernel
theorem dL_asks_12 : decode cL_asks 12 = .ok (.goto 213, 3) := by decide +kernel
theorem dL_asks_15 : decode cL_asks 15 = .ok (.iload_n 1, 1) := by decide +kernel
theorem dL_asks_16 : decode cL_asks 16 = .ok (.iconst 1, 1) := by decide +kernel
theorem dL_asks_17 : decode cL_asks 17 = .ok (.if_icmp .ne 10, 3) := by decide +kernel
theorem dL_asks_20 : decode cL_asks 20 = .ok (.aload_n 0, 1) := by decide +kernel
theorem dL_asks_21 : decode cL_asks 21 = .ok (.invokevirtual 13, 3) := by decide +kernel
theorem dL_asks_24 : decode cL_asks 24 = .ok (.goto 201, 3) := by decide +kernel
theorem dL_asks_27 : decode cL_asks 27 = .ok (.iload_n 1, 1) := by decide +kernel
theorem dL_asks_28 : decode cL_asks 28 = .ok (.iconst 2, 1) := by decide +kernel
theorem dL_asks_29 : decode cL_asks 29 = .ok (.if_icmp .ne 10, 3) := by decide +kernel
theorem dL_asks_32 : decode cL_asks 32 = .ok (.aload_n 0, 1) := by decide +kernel
theorem dL_asks_33 : decode cL_asks 33 = .ok (.invokevirtual 17, 3) := by decide +kernel
theorem dL_asks_36 : decode cL_asks 36 = .ok (.goto 189, 3) := by decide +kernel
theorem dL_asks_39 : decode cL_asks 39 = .ok (.iload_n 1, 1) := by decide +kernel
theorem dL_asks_40 : decode cL_asks 40 = .ok (.iconst 3, 1) := by decide +kernel
theorem dL_asks_41 : decode cL_asks 41 = .ok (.if_icmp .ne 12, 3) := by decide +kernel
theorem dL_asks_44 : decode cL_asks 44 = .ok (.aload_n 0, 1) := by decide +kernel
theorem dL_asks_45 : decode cL_asks 45 = .ok (.iload_n 2, 1) := by decide +kernel
theorem dL_asks_46 : decode cL_asks 46 = .ok (.iload_n 3, 1) := by decide +kernel
theorem dL_asks_47 : decode cL_asks 47 = .ok (.invokevirtual 20, 3) := by decide +kernel
theorem dL_asks_50 : decode cL_asks 50 = .ok (.goto 175, 3) := by decide +kernel
theorem dL_asks_53 : decode cL_asks 53 = .ok (.iload_n 1, 1) := by decide +kernel
theorem dL_asks_54 : decode cL_asks 54 = .ok (.iconst 4, 1) := by decide +kernel
theorem dL_asks_55 : decode cL_asks 55 = .ok (.if_icmp .ne 12, 3) := by decide +kernel
theorem dL_asks_58 : decode cL_asks 58 = .ok (.aload_n 0, 1) := by decide +kernel
theorem dL_asks_59 : decode cL_asks 59 = .ok (.iload_n 2, 1) := by decide +kernel
theorem dL_asks_60 : decode cL_asks 60 = .ok (.iload_n 3, 1) := by decide +kernel
theorem dL_asks_61 : decode cL_asks 61 = .ok (.invokevirtual 24, 3) := by decide +kernel
theorem dL_asks_64 : decode cL_asks 64 = .ok (.goto 161, 3) := by decide +kernel
theorem dL_asks_67 : decode cL_asks 67 = .ok (.iload_n 1, 1) := by decide +kernel
theorem dL_asks_68 : decode cL_asks 68 = .ok (.iconst 5, 1) := by decide +kernel
theorem dL_asks_69 : decode cL_asks 69 = .ok (.if_icmp .ne 11, 3) := by decide +kernel
theorem dL_asks_72 : decode cL_asks 72 = .ok (.aload_n 0, 1) := by decide +kernel
theorem dL_asks_73 : decode cL_asks 73 = .ok (.iload_n 2, 1) := by decide +kernel
theorem dL_asks_74 : decode cL_asks 74 = .ok (.invokevirtual 27, 3) := by decide +kernel
theorem dL_asks_77 : decode cL_asks 77 = .ok (.goto 148, 3) := by decide +kernel
theorem dL_asks_80 : decode cL_asks 80 = .ok (.iload_n 1, 1) := by decide +kernel
theorem dL_asks_81 : decode cL_asks 81 = .ok (.bipush 6, 2) := by decide +kernel
theorem dL_asks_83 : decode cL_asks 83 = .ok (.if_icmp .ne 11, 3) := by decide +kernel
theorem dL_asks_86 : decode cL_asks 86 = .ok (.aload_n 0, 1) := by decide +kernel
theorem dL_asks_87 : decode cL_asks 87 = .ok (.iload_n 2, 1) := by decide +kernel
theorem dL_asks_88 : decode cL_asks 88 = .ok (.invokevirtual 31, 3) := by decide +kernel
theorem dL_asks_91 : decode cL_asks 91 = .ok (.goto 134, 3) := by decide +kernel
theorem dL_asks_94 : decode cL_asks 94 = .ok (.iload_n 1, 1) := by decide +kernel
theorem dL_asks_95 : decode cL_asks 95 = .ok (.bipush 7, 2) := by decide +kernel
theorem dL_asks_97 : decode cL_asks 97 = .ok (.if_icmp .ne 12, 3) := by decide +kernel
theorem dL_asks_100 : decode cL_asks 100 = .ok (.aload_n 0, 1) := by decide +kernel
theorem dL_asks_101 : decode cL_asks 101 = .ok (.iload_n 2, 1) := by decide +kernel
theorem dL_asks_102 : decode cL_asks 102 = .ok (.iload_n 3, 1) := by decide +kernel
theorem dL_asks_103 : decode cL_asks 103 = .ok (.invokevirtual 34, 3) := by decide +kernel
theorem dL_asks_106 : decode cL_asks 106 = .ok (.goto 119, 3) := by decide +kernel
theorem dL_asks_109 : decode cL_asks 109 = .ok (.iload_n 1, 1) := by decide +kernel
theorem dL_asks_110 : decode cL_asks 110 = .ok (.bipush 8, 2) := by decide +kernel
theorem dL_asks_112 : decode cL_asks 112 = .ok (.if_icmp .ne 21, 3) := by decide +kernel
theorem dL_asks_115 : decode cL_asks 115 = .ok (.aload_n 0, 1) := by decide +kernel
theorem dL_asks_116 : decode cL_asks 116 = .ok (.iload_n 2, 1) := by decide +kernel
theorem dL_asks_117 : decode cL_asks 117 = .ok (.iload_n 3, 1) := by decide +kernel
theorem dL_asks_118 : decode cL_asks 118 = .ok (.iconst 1, 1) := by decide +kernel
theorem dL_asks_119 : decode cL_asks 119 = .ok (.if_icmp .ne 7, 3) := by decide +kernel
theorem dL_asks_122 : decode cL_asks 122 = .ok (.iconst 1, 1) := by decide +kernel
theorem dL_asks_123 : decode cL_asks 123 = .ok (.goto 4, 3) := by decide +kernel
theorem dL_asks_126 : decode cL_asks 126 = .ok (.iconst 0, 1) := by decide +kernel
theorem dL_asks_127 : decode cL_asks 127 = .ok (.invokevirtual 37, 3) := by decide +kernel
theorem dL_asks_130 : decode cL_asks 130 = .ok (.goto 95, 3) := by decide +kernel
theorem dL_asks_133 : decode cL_asks 133 = .ok (.iload_n 1, 1) := by decide +kernel
theorem dL_asks_134 : decode cL_asks 134 = .ok (.bipush 9, 2) := by decide +kernel
theorem dL_asks_136 : decode cL_asks 136 = .ok (.if_icmp .ne 11, 3) := by decide +kernel
theorem dL_asks_139 : decode cL_asks 139 = .ok (.aload_n 0, 1) := by decide +kernel
theorem dL_asks_140 : decode cL_asks 140 = .ok (.iload_n 2, 1) := by decide +kernel
theorem dL_asks_141 : decode cL_asks 141 = .ok (.invokevirtual 41, 3) := by decide +kernel
theorem dL_asks_144 : decode cL_asks 144 = .ok (.goto 81, 3) := by decide +kernel
theorem dL_asks_147 : decode cL_asks 147 = .ok (.iload_n 1, 1) := by decide +kernel
theorem dL_asks_148 : decode cL_asks 148 = .ok (.bipush 10, 2) := by decide +kernel
theorem dL_asks_150 : decode cL_asks 150 = .ok (.if_icmp .ne 23, 3) := by decide +kernel
theorem dL_asks_153 : decode cL_asks 153 = .ok (.aload_n 0, 1) := by decide +kernel
theorem dL_asks_154 : decode cL_asks 154 = .ok (.iload_n 2, 1) := by decide +kernel
theorem dL_asks_155 : decode cL_asks 155 = .ok (.iload_n 3, 1) := by decide +kernel
theorem dL_asks_156 : decode cL_asks 156 = .ok (.iload 4, 2) := by decide +kernel
theorem dL_asks_158 : decode cL_asks 158 = .ok (.iconst 1, 1) := by decide +kernel
theorem dL_asks_159 : decode cL_asks 159 = .ok (.if_icmp .ne 7, 3) := by decide +kernel
theorem dL_asks_162 : decode cL_asks 162 = .ok (.iconst 1, 1) := by decide +kernel
theorem dL_asks_163 : decode cL_asks 163 = .ok (.goto 4, 3) := by decide +kernel
theorem dL_asks_166 : decode cL_asks 166 = .ok (.iconst 0, 1) := by decide +kernel
theorem dL_asks_167 : decode cL_asks 167 = .ok (.invokevirtual 44, 3) := by decide +kernel
theorem dL_asks_170 : decode cL_asks 170 = .ok (.goto 55, 3) := by decide +kernel
theorem dL_asks_173 : decode cL_asks 173 = .ok (.iload_n 1, 1) := by decide +kernel
theorem dL_asks_174 : decode cL_asks 174 = .ok (.bipush 11, 2) := by decide +kernel
theorem dL_asks_176 : decode cL_asks 176 = .ok (.if_icmp .ne 27, 3) := by decide +kernel
theorem dL_asks_179 : decode cL_asks 179 = .ok (.aload_n 0, 1) := by decide +kernel
theorem dL_asks_180 : decode cL_asks 180 = .ok (.iload_n 2, 1) := by decide +kernel
theorem dL_asks_181 : decode cL_asks 181 = .ok (.iload_n 3, 1) := by decide +kernel
theorem dL_asks_182 : decode cL_asks 182 = .ok (.iload 4, 2) := by decide +kernel
theorem dL_asks_184 : decode cL_asks 184 = .ok (.iload 5, 2) := by decide +kernel
theorem dL_asks_186 : decode cL_asks 186 = .ok (.iload 6, 2) := by decide +kernel
theorem dL_asks_188 : decode cL_asks 188 = .ok (.iconst 1, 1) := by decide +kernel
theorem dL_asks_189 : decode cL_asks 189 = .ok (.if_icmp .ne 7, 3) := by decide +kernel
theorem dL_asks_192 : decode cL_asks 192 = .ok (.iconst 1, 1) := by decide +kernel
theorem dL_asks_193 : decode cL_asks 193 = .ok (.goto 4, 3) := by decide +kernel
theorem dL_asks_196 : decode cL_asks 196 = .ok (.iconst 0, 1) := by decide +kernel
theorem dL_asks_197 : decode cL_asks 197 = .ok (.invokevirtual 48, 3) := by decide +kernel
theorem dL_asks_200 : decode cL_asks 200 = .ok (.goto 25, 3) := by decide +kernel
theorem dL_asks_203 : decode cL_asks 203 = .ok (.iload_n 1, 1) := by decide +kernel
theorem dL_asks_204 : decode cL_asks 204 = .ok (.bipush 12, 2) := by decide +kernel
theorem dL_asks_206 : decode cL_asks 206 = .ok (.if_icmp .ne 14, 3) := by decide +kernel
theorem dL_asks_209 : decode cL_asks 209 = .ok (.aload_n 0, 1) := by decide +kernel
theorem dL_asks_210 : decode cL_asks 210 = .ok (.iload_n 2, 1) := by decide +kernel
theorem dL_asks_211 : decode cL_asks 211 = .ok (.iload_n 3, 1) := by decide +kernel
theorem dL_asks_212 : decode cL_asks 212 = .ok (.iload 4, 2) := by decide +kernel
theorem dL_asks_214 : decode cL_asks 214 = .ok (.invokevirtual 52, 3) := by decide +kernel
theorem dL_asks_217 : decode cL_asks 217 = .ok (.goto 8, 3) := by decide +kernel
theorem dL_asks_220 : decode cL_asks 220 = .ok (.aload_n 0, 1) := by decide +kernel
theorem dL_asks_221 : decode cL_asks 221 = .ok (.iload_n 2, 1) := by decide +kernel
theorem dL_asks_222 : decode cL_asks 222 = .ok (.invokevirtual 55, 3) := by decide +kernel
theorem dL_asks_225 : decode cL_asks 225 = .ok (.ireturn, 1) := by decide +kernel
set_option maxRecDepth 20000 in
theorem ggL_on_L_asks : GoodIn wsL_on wsL_asks := goodIn_ca (goodIn_ca (goodIn_ca (goodIn_g _ [(7, 450)] (by exact rfl) (by decide +kernel)) (goodIn_sub (fun _ h => List.mem_cons_of_mem _ (List.mem_append_left _ (List.mem_append_left _ (List.mem_append_right _ h)))) (by decide +kernel))) (goodIn_sub (fun _ h => List.mem_cons_of_mem _ (List.mem_append_left _ (List.mem_append_right _ h))) (by decide +kernel))) (goodIn_sub (fun _ h => List.mem_cons_of_mem _ (List.mem_append_right _ h)) (by decide +kernel))
set_option maxRecDepth 20000 in
theorem gL_on_L_asks : GoodIn wsL_on (va_wsS RL 58 yL_asks wsL_asks) := goodIn_app (goodIn_of _ (by decide +kernel)) ggL_on_L_asks
theorem dL_on_0 : decode cL_on 0 = .ok (.aload_n 0, 1) := by decide +kernel
theorem dL_on_1 : decode cL_on 1 = .ok (.iload_n 1, 1) := by decide +kernel
theorem dL_on_2 : decode cL_on 2 = .ok (.iload_n 2, 1) := by decide +kernel
theorem dL_on_3 : decode cL_on 3 = .ok (.iload_n 3, 1) := by decide +kernel
theorem dL_on_4 : decode cL_on 4 = .ok (.iload 4, 2) := by decide +kernel
theorem dL_on_6 : decode cL_on 6 = .ok (.iload 5, 2) := by decide +kernel
theorem dL_on_8 : decode cL_on 8 = .ok (.iload 6, 2) := by decide +kernel
theorem dL_on_10 : decode cL_on 10 = .ok (.invokestatic 58, 3) := by decide +kernel
theorem dL_on_13 : decode cL_on 13 = .ok (.ireturn, 1) := by decide +kernel
theorem dL_on_14 : decode cL_on 14 = .ok (.astore 7, 2) := by decide +kernel
theorem dL_on_16 : decode cL_on 16 = .ok (.bipush (-11), 2) := by decide +kernel
theorem dL_on_18 : decode cL_on 18 = .ok (.ireturn, 1) := by decide +kernel
theorem dL_on_19 : decode cL_on 19 = .ok (.astore 7, 2) := by decide +kernel
theorem dL_on_21 : decode cL_on 21 = .ok (.bipush (-12), 2) := by decide +kernel
theorem dL_on_23 : decode cL_on 23 = .ok (.ireturn, 1) := by decide +kernel
theorem dL_on_24 : decode cL_on 24 = .ok (.astore 7, 2) := by decide +kernel
theorem dL_on_26 : decode cL_on 26 = .ok (.bipush (-13), 2) := by decide +kernel
theorem dL_on_28 : decode cL_on 28 = .ok (.ireturn, 1) := by decide +kernel
set_option maxRecDepth 20000 in
theorem ggL_isTrimmed_X7_size : GoodIn wsL_isTrimmed wsX7_size := goodIn_ca (goodIn_g _ [(8, 8), (7, 1), (16, 4), (48, 14)] (by exact rfl) (by decide +kernel)) (goodIn_sub (fun _ h => List.mem_cons_of_mem _ (List.mem_append_left _ (List.mem_append_right _ h))) (by decide +kernel))
set_option maxRecDepth 20000 in
theorem gL_isTrimmed_X7_size : GoodIn wsL_isTrimmed (wsV RL 70 RX7 yX7_size wsX7_size) := goodIn_app (goodIn_of _ (by decide +kernel)) ggL_isTrimmed_X7_size
set_option maxRecDepth 20000 in
theorem ggL_isTrimmed_X7_isEnd : GoodIn wsL_isTrimmed wsX7_isEnd := goodIn_ca (goodIn_g _ [(23, 1), (17, 2), (9, 2), (24, 1), (13, 3), (7, 1), (16, 1), (19, 1), (25, 3), (48, 11)] (by exact rfl) (by decide +kernel)) (goodIn_sub (fun _ h => List.mem_cons_of_mem _ (List.mem_append_left _ (List.mem_append_right _ h))) (by decide +kernel))
set_option maxRecDepth 20000 in
theorem gL_isTrimmed_X7_isEnd : GoodIn wsL_isTrimmed (wsV RL 73 RX7 yX7_isEnd wsX7_isEnd) := goodIn_app (goodIn_of _ (by decide +kernel)) ggL_isTrimmed_X7_isEnd
set_option maxRecDepth 20000 in
theorem ggL_isTrimmed_X7_arc : GoodIn wsL_isTrimmed wsX7_arc := goodIn_ca (goodIn_ca (goodIn_g _ [(31, 1), (17, 2), (32, 2), (9, 1), (11, 2), (34, 2), (13, 3), (7, 1), (16, 1), (19, 1), (36, 26)] (by exact rfl) (by decide +kernel)) (goodIn_sub (fun _ h => List.mem_cons_of_mem _ (List.mem_append_left _ (List.mem_append_right _ h))) (by decide +kernel))) (goodIn_sub (fun _ h => List.mem_cons_of_mem _ (List.mem_append_right _ h)) (by decide +kernel))
set_option maxRecDepth 20000 in
theorem gL_isTrimmed_X7_arc : GoodIn wsL_isTrimmed (wsV RL 79 RX7 yX7_arc wsX7_arc) := goodIn_app (goodIn_of _ (by decide +kernel)) ggL_isTrimmed_X7_arc
theorem dL_isTrimmed_0 : decode cL_isTrimmed 0 = .ok (.aload_n 0, 1) := by decide +kernel
theorem dL_isTrimmed_1 : decode cL_isTrimmed 1 = .ok (.iload_n 1, 1) := by decide +kernel
theorem dL_isTrimmed_2 : decode cL_isTrimmed 2 = .ok (.invokevirtual 70, 3) := by decide +kernel
theorem dL_isTrimmed_5 : decode cL_isTrimmed 5 = .ok (.sipush 1000, 3) := by decide +kernel
theorem dL_isTrimmed_8 : decode cL_isTrimmed 8 = .ok (.idiv, 1) := by decide +kernel
theorem dL_isTrimmed_9 : decode cL_isTrimmed 9 = .ok (.istore_n 2, 1) := by decide +kernel
theorem dL_isTrimmed_10 : decode cL_isTrimmed 10 = .ok (.aload_n 0, 1) := by decide +kernel
theorem dL_isTrimmed_11 : decode cL_isTrimmed 11 = .ok (.iload_n 1, 1) := by decide +kernel
theorem dL_isTrimmed_12 : decode cL_isTrimmed 12 = .ok (.invokevirtual 70, 3) := by decide +kernel
theorem dL_isTrimmed_15 : decode cL_isTrimmed 15 = .ok (.sipush 1000, 3) := by decide +kernel
theorem dL_isTrimmed_18 : decode cL_isTrimmed 18 = .ok (.irem, 1) := by decide +kernel
theorem dL_isTrimmed_19 : decode cL_isTrimmed 19 = .ok (.istore_n 3, 1) := by decide +kernel
theorem dL_isTrimmed_20 : decode cL_isTrimmed 20 = .ok (.lconst 0, 1) := by decide +kernel
theorem dL_isTrimmed_21 : decode cL_isTrimmed 21 = .ok (.lstore 4, 2) := by decide +kernel
theorem dL_isTrimmed_23 : decode cL_isTrimmed 23 = .ok (.iconst 0, 1) := by decide +kernel
theorem dL_isTrimmed_24 : decode cL_isTrimmed 24 = .ok (.istore 6, 2) := by decide +kernel
theorem dL_isTrimmed_26 : decode cL_isTrimmed 26 = .ok (.iload 6, 2) := by decide +kernel
theorem dL_isTrimmed_28 : decode cL_isTrimmed 28 = .ok (.iload_n 2, 1) := by decide +kernel
theorem dL_isTrimmed_29 : decode cL_isTrimmed 29 = .ok (.if_icmp .ge 32, 3) := by decide +kernel
theorem dL_isTrimmed_32 : decode cL_isTrimmed 32 = .ok (.lload 4, 2) := by decide +kernel
theorem dL_isTrimmed_34 : decode cL_isTrimmed 34 = .ok (.aload_n 0, 1) := by decide +kernel
theorem dL_isTrimmed_35 : decode cL_isTrimmed 35 = .ok (.iload_n 1, 1) := by decide +kernel
theorem dL_isTrimmed_36 : decode cL_isTrimmed 36 = .ok (.iload 6, 2) := by decide +kernel
