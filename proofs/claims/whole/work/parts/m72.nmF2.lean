set_option maxRecDepth 20000 in
theorem gL_changes_X7_changes : GoodIn wsL_changes (wsV RL 89 RX7 yX7_changes wsX7_changes) := goodIn_app (goodIn_of _ (by decide +kernel)) ggL_changes_X7_changes
theorem dL_changes_0 : decode cL_changes 0 = .ok (.aload_n 2, 1) := by decide +kernel
theorem dL_changes_1 : decode cL_changes 1 = .ok (.iconst 0, 1) := by decide +kernel
theorem dL_changes_2 : decode cL_changes 2 = .ok (.aload_n 0, 1) := by decide +kernel
theorem dL_changes_3 : decode cL_changes 3 = .ok (.iload_n 1, 1) := by decide +kernel
theorem dL_changes_4 : decode cL_changes 4 = .ok (.invokevirtual 89, 3) := by decide +kernel
theorem dL_changes_7 : decode cL_changes 7 = .ok (.i2l, 1) := by decide +kernel
theorem dL_changes_8 : decode cL_changes 8 = .ok (.lastore, 1) := by decide +kernel
theorem dL_changes_9 : decode cL_changes 9 = .ok (.goto 6, 3) := by decide +kernel
theorem dL_changes_12 : decode cL_changes 12 = .ok (.astore_n 3, 1) := by decide +kernel
theorem dL_changes_13 : decode cL_changes 13 = .ok (.iconst 1, 1) := by decide +kernel
theorem dL_changes_14 : decode cL_changes 14 = .ok (.ireturn, 1) := by decide +kernel
theorem dL_changes_15 : decode cL_changes 15 = .ok (.iconst 0, 1) := by decide +kernel
theorem dL_changes_16 : decode cL_changes 16 = .ok (.ireturn, 1) := by decide +kernel
set_option maxRecDepth 20000 in
theorem ggL_mended_X7_mended : GoodIn wsL_mended wsX7_mended := goodIn_ca (goodIn_g _ [(6, 8), (5, 1), (14, 161)] (by exact rfl) (by decide +kernel)) (goodIn_sub (fun _ h => List.mem_cons_of_mem _ (List.mem_append_right _ h)) (by decide +kernel))
set_option maxRecDepth 20000 in
theorem gL_mended_X7_mended : GoodIn wsL_mended (wsV RL 92 RX7 yX7_mended wsX7_mended) := goodIn_app (goodIn_of _ (by decide +kernel)) ggL_mended_X7_mended
theorem dL_mended_0 : decode cL_mended 0 = .ok (.aload_n 3, 1) := by decide +kernel
theorem dL_mended_1 : decode cL_mended 1 = .ok (.iconst 0, 1) := by decide +kernel
theorem dL_mended_2 : decode cL_mended 2 = .ok (.aload_n 0, 1) := by decide +kernel
theorem dL_mended_3 : decode cL_mended 3 = .ok (.iload_n 1, 1) := by decide +kernel
theorem dL_mended_4 : decode cL_mended 4 = .ok (.iload_n 2, 1) := by decide +kernel
theorem dL_mended_5 : decode cL_mended 5 = .ok (.invokevirtual 92, 3) := by decide +kernel
theorem dL_mended_8 : decode cL_mended 8 = .ok (.i2l, 1) := by decide +kernel
theorem dL_mended_9 : decode cL_mended 9 = .ok (.lastore, 1) := by decide +kernel
theorem dL_mended_10 : decode cL_mended 10 = .ok (.goto 7, 3) := by decide +kernel
theorem dL_mended_13 : decode cL_mended 13 = .ok (.astore 4, 2) := by decide +kernel
theorem dL_mended_15 : decode cL_mended 15 = .ok (.iconst 1, 1) := by decide +kernel
theorem dL_mended_16 : decode cL_mended 16 = .ok (.ireturn, 1) := by decide +kernel
theorem dL_mended_17 : decode cL_mended 17 = .ok (.iconst 0, 1) := by decide +kernel
theorem dL_mended_18 : decode cL_mended 18 = .ok (.ireturn, 1) := by decide +kernel
set_option maxRecDepth 20000 in
theorem ggL_apart_X7_apart : GoodIn wsL_apart wsX7_apart := goodIn_ca (goodIn_ca (goodIn_g _ [(7, 6), (6, 1), (13, 142)] (by exact rfl) (by decide +kernel)) (goodIn_sub (fun _ h => List.mem_cons_of_mem _ (List.mem_append_left _ (List.mem_append_right _ h))) (by decide +kernel))) (goodIn_sub (fun _ h => List.mem_cons_of_mem _ (List.mem_append_right _ h)) (by decide +kernel))
set_option maxRecDepth 20000 in
theorem gL_apart_X7_apart : GoodIn wsL_apart (wsV RL 95 RX7 yX7_apart wsX7_apart) := goodIn_app (goodIn_of _ (by decide +kernel)) ggL_apart_X7_apart
theorem dL_apart_0 : decode cL_apart 0 = .ok (.aload 4, 2) := by decide +kernel
theorem dL_apart_2 : decode cL_apart 2 = .ok (.iconst 0, 1) := by decide +kernel
theorem dL_apart_3 : decode cL_apart 3 = .ok (.aload_n 0, 1) := by decide +kernel
theorem dL_apart_4 : decode cL_apart 4 = .ok (.iload_n 1, 1) := by decide +kernel
theorem dL_apart_5 : decode cL_apart 5 = .ok (.iload_n 2, 1) := by decide +kernel
theorem dL_apart_6 : decode cL_apart 6 = .ok (.iload_n 3, 1) := by decide +kernel
theorem dL_apart_7 : decode cL_apart 7 = .ok (.invokevirtual 95, 3) := by decide +kernel
theorem dL_apart_10 : decode cL_apart 10 = .ok (.i2l, 1) := by decide +kernel
theorem dL_apart_11 : decode cL_apart 11 = .ok (.lastore, 1) := by decide +kernel
theorem dL_apart_12 : decode cL_apart 12 = .ok (.goto 11, 3) := by decide +kernel
theorem dL_apart_15 : decode cL_apart 15 = .ok (.astore 5, 2) := by decide +kernel
theorem dL_apart_17 : decode cL_apart 17 = .ok (.iconst 1, 1) := by decide +kernel
theorem dL_apart_18 : decode cL_apart 18 = .ok (.ireturn, 1) := by decide +kernel
theorem dL_apart_19 : decode cL_apart 19 = .ok (.astore 5, 2) := by decide +kernel
theorem dL_apart_21 : decode cL_apart 21 = .ok (.iconst 2, 1) := by decide +kernel
theorem dL_apart_22 : decode cL_apart 22 = .ok (.ireturn, 1) := by decide +kernel
theorem dL_apart_23 : decode cL_apart 23 = .ok (.iconst 0, 1) := by decide +kernel
theorem dL_apart_24 : decode cL_apart 24 = .ok (.ireturn, 1) := by decide +kernel
set_option maxRecDepth 20000 in
theorem ggL_ruled_X7_ruled : GoodIn wsL_ruled wsX7_ruled := goodIn_ca (goodIn_ca (goodIn_g _ [(7, 5), (6, 1), (12, 29)] (by exact rfl) (by decide +kernel)) (goodIn_sub (fun _ h => List.mem_cons_of_mem _ (List.mem_append_left _ (List.mem_append_right _ h))) (by decide +kernel))) (goodIn_sub (fun _ h => List.mem_cons_of_mem _ (List.mem_append_right _ h)) (by decide +kernel))
set_option maxRecDepth 20000 in
theorem gL_ruled_X7_ruled : GoodIn wsL_ruled (wsV RL 98 RX7 yX7_ruled wsX7_ruled) := goodIn_app (goodIn_of _ (by decide +kernel)) ggL_ruled_X7_ruled
theorem dL_ruled_0 : decode cL_ruled 0 = .ok (.aload 6, 2) := by decide +kernel
theorem dL_ruled_2 : decode cL_ruled 2 = .ok (.iconst 0, 1) := by decide +kernel
theorem dL_ruled_3 : decode cL_ruled 3 = .ok (.aload_n 0, 1) := by decide +kernel
theorem dL_ruled_4 : decode cL_ruled 4 = .ok (.iload_n 1, 1) := by decide +kernel
theorem dL_ruled_5 : decode cL_ruled 5 = .ok (.iload_n 2, 1) := by decide +kernel
theorem dL_ruled_6 : decode cL_ruled 6 = .ok (.iload_n 3, 1) := by decide +kernel
theorem dL_ruled_7 : decode cL_ruled 7 = .ok (.iload 4, 2) := by decide +kernel
theorem dL_ruled_9 : decode cL_ruled 9 = .ok (.iload 5, 2) := by decide +kernel
theorem dL_ruled_11 : decode cL_ruled 11 = .ok (.invokevirtual 98, 3) := by decide +kernel
theorem dL_ruled_14 : decode cL_ruled 14 = .ok (.i2l, 1) := by decide +kernel
theorem dL_ruled_15 : decode cL_ruled 15 = .ok (.lastore, 1) := by decide +kernel
theorem dL_ruled_16 : decode cL_ruled 16 = .ok (.goto 11, 3) := by decide +kernel
theorem dL_ruled_19 : decode cL_ruled 19 = .ok (.astore 7, 2) := by decide +kernel
theorem dL_ruled_21 : decode cL_ruled 21 = .ok (.iconst 1, 1) := by decide +kernel
theorem dL_ruled_22 : decode cL_ruled 22 = .ok (.ireturn, 1) := by decide +kernel
theorem dL_ruled_23 : decode cL_ruled 23 = .ok (.astore 7, 2) := by decide +kernel
theorem dL_ruled_25 : decode cL_ruled 25 = .ok (.iconst 2, 1) := by decide +kernel
theorem dL_ruled_26 : decode cL_ruled 26 = .ok (.ireturn, 1) := by decide +kernel
theorem dL_ruled_27 : decode cL_ruled 27 = .ok (.iconst 0, 1) := by decide +kernel
theorem dL_ruled_28 : decode cL_ruled 28 = .ok (.ireturn, 1) := by decide +kernel
set_option maxRecDepth 20000 in
theorem ggL_learn_X7_learn : GoodIn wsL_learn wsX7_learn := goodIn_ca (goodIn_ca (goodIn_g _ [(7, 36)] (by exact rfl) (by decide +kernel)) (goodIn_sub (fun _ h => List.mem_cons_of_mem _ (List.mem_append_left _ (List.mem_append_right _ h))) (by decide +kernel))) (goodIn_sub (fun _ h => List.mem_cons_of_mem _ (List.mem_append_right _ h)) (by decide +kernel))
set_option maxRecDepth 20000 in
theorem gL_learn_X7_learn : GoodIn wsL_learn (wsV RL 102 RX7 yX7_learn wsX7_learn) := goodIn_app (goodIn_of _ (by decide +kernel)) ggL_learn_X7_learn
theorem dL_learn_0 : decode cL_learn 0 = .ok (.aload_n 2, 1) := by decide +kernel
theorem dL_learn_1 : decode cL_learn 1 = .ok (.iconst 0, 1) := by decide +kernel
theorem dL_learn_2 : decode cL_learn 2 = .ok (.aload_n 0, 1) := by decide +kernel
theorem dL_learn_3 : decode cL_learn 3 = .ok (.iload_n 1, 1) := by decide +kernel
theorem dL_learn_4 : decode cL_learn 4 = .ok (.invokevirtual 102, 3) := by decide +kernel
theorem dL_learn_7 : decode cL_learn 7 = .ok (.i2l, 1) := by decide +kernel
theorem dL_learn_8 : decode cL_learn 8 = .ok (.lastore, 1) := by decide +kernel
theorem dL_learn_9 : decode cL_learn 9 = .ok (.goto 9, 3) := by decide +kernel
theorem dL_learn_12 : decode cL_learn 12 = .ok (.astore_n 3, 1) := by decide +kernel
theorem dL_learn_13 : decode cL_learn 13 = .ok (.iconst 1, 1) := by decide +kernel
theorem dL_learn_14 : decode cL_learn 14 = .ok (.ireturn, 1) := by decide +kernel
theorem dL_learn_15 : decode cL_learn 15 = .ok (.astore_n 3, 1) := by decide +kernel
theorem dL_learn_16 : decode cL_learn 16 = .ok (.iconst 2, 1) := by decide +kernel
theorem dL_learn_17 : decode cL_learn 17 = .ok (.ireturn, 1) := by decide +kernel
theorem dL_learn_18 : decode cL_learn 18 = .ok (.iconst 0, 1) := by decide +kernel
theorem dL_learn_19 : decode cL_learn 19 = .ok (.ireturn, 1) := by decide +kernel
set_option maxRecDepth 20000 in
theorem ggL_law_X7_init : GoodIn wsL_law wsX7_init := goodIn_g _ [(9, 114), (1164, 8), (1219, 56)] (by exact rfl) (by decide +kernel)
set_option maxRecDepth 20000 in
theorem gL_law_X7_init : GoodIn wsL_law (wsX7_init) := ggL_law_X7_init
set_option maxRecDepth 20000 in
theorem ggL_law_X8_init : GoodIn wsL_law wsX8_init := goodIn_g _ [(125, 2), (11, 3), (127, 12), (57, 1), (139, 27), (1172, 47)] (by exact rfl) (by decide +kernel)
set_option maxRecDepth 20000 in
theorem gL_law_X8_init : GoodIn wsL_law (wsX8_init) := ggL_law_X8_init
set_option maxRecDepth 20000 in
theorem ggL_law_L_type : GoodIn wsL_law wsL_type := goodIn_ca (goodIn_ca (goodIn_g _ [(169, 6), (2, 1), (175, 5), (15, 1), (14, 1), (180, 3), (1164, 8)] (by exact rfl) (by decide +kernel)) (goodIn_sub (fun _ h => List.mem_append_left _ (List.mem_append_left _ (List.mem_append_right _ h))) (by decide +kernel))) (goodIn_sub (fun _ h => List.mem_append_left _ (List.mem_append_right _ h)) (by decide +kernel))
set_option maxRecDepth 20000 in
theorem gL_law_L_type : GoodIn wsL_law (va_wsS RL 109 yL_type wsL_type) := goodIn_app (goodIn_of _ (by decide +kernel)) ggL_law_L_type
set_option maxRecDepth 20000 in
theorem ggL_law_X8_type : GoodIn wsL_law wsX8_type := goodIn_g _ [(186, 2), (127, 1), (188, 2), (5, 1), (190, 6), (1172, 47)] (by exact rfl) (by decide +kernel)
set_option maxRecDepth 20000 in
theorem gL_law_X8_type : GoodIn wsL_law (wsV RL 114 RX8 yX8_type wsX8_type) := goodIn_app (goodIn_of _ (by decide +kernel)) ggL_law_X8_type
set_option maxRecDepth 20000 in
theorem ggL_law_X8_thrown : GoodIn wsL_law wsX8_thrown := goodIn_g _ [(199, 1), (195, 1), (1172, 47)] (by exact rfl) (by decide +kernel)
set_option maxRecDepth 20000 in
theorem gL_law_X8_thrown : GoodIn wsL_law (wsV RL 115 RX8 yX8_thrown wsX8_thrown) := goodIn_app (goodIn_of _ (by decide +kernel)) ggL_law_X8_thrown
set_option maxRecDepth 20000 in
theorem ggL_law_X7_clear : GoodIn wsL_law wsX7_clear := goodIn_g _ [(203, 1), (15, 1), (1164, 8)] (by exact rfl) (by decide +kernel)
set_option maxRecDepth 20000 in
theorem gL_law_X7_clear : GoodIn wsL_law (wsV RL 118 RX7 yX7_clear wsX7_clear) := goodIn_app (goodIn_of _ (by decide +kernel)) ggL_law_X7_clear
set_option maxRecDepth 20000 in
theorem ggL_law_X8_clear : GoodIn wsL_law wsX8_clear := goodIn_g _ [(207, 1), (195, 1), (187, 1), (1172, 47)] (by exact rfl) (by decide +kernel)
set_option maxRecDepth 20000 in
theorem gL_law_X8_clear : GoodIn wsL_law (wsV RL 121 RX8 yX8_clear wsX8_clear) := goodIn_app (goodIn_of _ (by decide +kernel)) ggL_law_X8_clear
set_option maxRecDepth 20000 in
theorem ggL_law_L_pair : GoodIn wsL_law wsL_pair := goodIn_ca (goodIn_ca (goodIn_g _ [(210, 1), (170, 2), (211, 3), (2, 1), (214, 1), (176, 2), (24, 1), (215, 3), (180, 3), (218, 3), (23, 1), (221, 5), (59, 3), (58, 1), (226, 4), (55, 2), (230, 10), (178, 2), (20, 1), (17, 1), (240, 8), (66, 1), (248, 4), (65, 1), (64, 1), (252, 4), (62, 2), (256, 16), (69, 1), (272, 3), (42, 1), (275, 1), (51, 1), (49, 2), (276, 13), (67, 1), (289, 18), (1164, 8), (1222, 13), (1219, 3), (1268, 3)] (by exact rfl) (by decide +kernel)) (goodIn_sub (fun _ h => List.mem_append_left _ (List.mem_append_left _ (List.mem_append_right _ h))) (by decide +kernel))) (goodIn_sub (fun _ h => List.mem_append_left _ (List.mem_append_right _ h)) (by decide +kernel))
set_option maxRecDepth 20000 in
theorem gL_law_L_pair : GoodIn wsL_law (va_wsS RL 122 yL_pair wsL_pair) := goodIn_app (goodIn_of _ (by decide +kernel)) ggL_law_L_pair
set_option maxRecDepth 20000 in
theorem ggL_law_X8_pair : GoodIn wsL_law wsX8_pair := goodIn_g _ [(310, 1), (139, 1), (188, 2), (5, 1), (190, 1), (311, 5), (191, 5), (316, 9), (137, 2), (325, 4), (142, 1), (329, 2), (141, 1), (143, 6), (331, 5), (140, 1), (336, 18), (128, 8), (354, 8), (1172, 47)] (by exact rfl) (by decide +kernel)
set_option maxRecDepth 20000 in
theorem gL_law_X8_pair : GoodIn wsL_law (wsV RL 125 RX8 yX8_pair wsX8_pair) := goodIn_app (goodIn_of _ (by decide +kernel)) ggL_law_X8_pair
set_option maxRecDepth 20000 in
theorem ggL_law_L_word : GoodIn wsL_law wsL_word := goodIn_ca (goodIn_g _ [(364, 1), (171, 1), (365, 3), (2, 1), (368, 1), (24, 1), (15, 1), (14, 1), (218, 3), (23, 1), (221, 5), (59, 3), (58, 1), (226, 4), (55, 2), (230, 10), (178, 2), (20, 1), (17, 1), (240, 8), (66, 1), (248, 4), (65, 1), (64, 1), (252, 4), (62, 2), (256, 16), (69, 1), (272, 3), (42, 1), (275, 1), (51, 1), (49, 2), (276, 13), (67, 1), (289, 18), (1164, 8), (1222, 13), (1219, 3), (1268, 3)] (by exact rfl) (by decide +kernel)) (goodIn_sub (fun _ h => List.mem_append_left _ (List.mem_append_right _ h)) (by decide +kernel))
set_option maxRecDepth 20000 in
theorem gL_law_L_word : GoodIn wsL_law (va_wsS RL 126 yL_word wsL_word) := goodIn_app (goodIn_of _ (by decide +kernel)) ggL_law_L_word
set_option maxRecDepth 20000 in
theorem ggL_law_X8_word : GoodIn wsL_law wsX8_word := goodIn_g _ [(372, 1), (187, 1), (127, 1), (139, 1), (311, 3), (5, 1), (314, 2), (191, 5), (316, 9), (137, 2), (325, 4), (142, 1), (329, 2), (141, 1), (143, 6), (331, 5), (140, 1), (336, 18), (128, 8), (354, 8), (1172, 47)] (by exact rfl) (by decide +kernel)
set_option maxRecDepth 20000 in
theorem gL_law_X8_word : GoodIn wsL_law (wsV RL 129 RX8 yX8_word wsX8_word) := goodIn_app (goodIn_of _ (by decide +kernel)) ggL_law_X8_word
set_option maxRecDepth 20000 in
theorem ggL_law_L_any : GoodIn wsL_law wsL_any := goodIn_ca (goodIn_g _ [(375, 1), (171, 1), (376, 3), (2, 1), (379, 1), (24, 1), (218, 3), (23, 1), (221, 5), (59, 3), (58, 1), (226, 4), (55, 2), (230, 10), (178, 2), (20, 1), (17, 1), (240, 8), (66, 1), (248, 4), (65, 1), (64, 1), (252, 4), (62, 2), (256, 16), (69, 1), (272, 3), (42, 1), (275, 1), (51, 1), (49, 2), (276, 13), (67, 1), (289, 18), (1164, 8), (1222, 13), (1219, 3), (1268, 3)] (by exact rfl) (by decide +kernel)) (goodIn_sub (fun _ h => List.mem_append_left _ (List.mem_append_right _ h)) (by decide +kernel))
set_option maxRecDepth 20000 in
theorem gL_law_L_any : GoodIn wsL_law (va_wsS RL 130 yL_any wsL_any) := goodIn_app (goodIn_of _ (by decide +kernel)) ggL_law_L_any
set_option maxRecDepth 20000 in
theorem ggL_law_X8_any : GoodIn wsL_law wsX8_any := goodIn_g _ [(383, 1), (139, 1), (311, 3), (5, 1), (314, 2), (191, 5), (316, 9), (137, 2), (325, 4), (142, 1), (329, 2), (141, 1), (143, 6), (331, 5), (140, 1), (336, 18), (128, 8), (354, 8), (1172, 47)] (by exact rfl) (by decide +kernel)
set_option maxRecDepth 20000 in
theorem gL_law_X8_any : GoodIn wsL_law (wsV RL 132 RX8 yX8_any wsX8_any) := goodIn_app (goodIn_of _ (by decide +kernel)) ggL_law_X8_any
set_option maxRecDepth 20000 in
theorem ggL_law_L_join : GoodIn wsL_law wsL_join := goodIn_ca (goodIn_ca (goodIn_g _ [(386, 2), (171, 1), (388, 3), (2, 1), (391, 1), (17, 1), (24, 1), (392, 7), (20, 1), (218, 3), (23, 1), (221, 5), (59, 3), (58, 1), (399, 4), (246, 2), (289, 1), (302, 1), (256, 2), (303, 4), (258, 2), (403, 1), (227, 3), (55, 2), (230, 2), (404, 4), (244, 2), (408, 7), (233, 7), (178, 2), (240, 4), (66, 1), (248, 4), (65, 1), (64, 1), (252, 4), (62, 2), (260, 12), (69, 1), (272, 3), (42, 1), (275, 1), (51, 1), (49, 2), (276, 13), (67, 1), (290, 12), (1164, 8), (1219, 16), (1268, 3)] (by exact rfl) (by decide +kernel)) (goodIn_sub (fun _ h => List.mem_append_right _ h) (by decide +kernel))) (goodIn_sub (fun _ h => List.mem_append_left _ (List.mem_append_right _ h)) (by decide +kernel))
set_option maxRecDepth 20000 in
theorem gL_law_L_join : GoodIn wsL_law (va_wsS RL 133 yL_join wsL_join) := goodIn_app (goodIn_of _ (by decide +kernel)) ggL_law_L_join
set_option maxRecDepth 20000 in
theorem ggL_law_X8_join : GoodIn wsL_law wsX8_join := goodIn_g _ [(418, 4), (5, 1), (422, 1), (315, 1), (188, 3), (311, 4), (423, 4), (128, 1), (139, 1), (316, 5), (427, 4), (130, 6), (321, 4), (137, 2), (431, 4), (129, 1), (325, 4), (142, 1), (329, 2), (141, 1), (143, 6), (331, 5), (140, 1), (336, 14), (191, 5), (350, 12), (1172, 47)] (by exact rfl) (by decide +kernel)
set_option maxRecDepth 20000 in
theorem gL_law_X8_join : GoodIn wsL_law (wsV RL 136 RX8 yX8_join wsX8_join) := goodIn_app (goodIn_of _ (by decide +kernel)) ggL_law_X8_join
set_option maxRecDepth 20000 in
theorem ggL_law_L_unite : GoodIn wsL_law wsL_unite := goodIn_ca (goodIn_ca (goodIn_g _ [(437, 1), (387, 1), (171, 1), (438, 3), (2, 1), (441, 1), (17, 1), (392, 1), (24, 1), (393, 6), (20, 1), (218, 3), (23, 1), (221, 5), (59, 3), (58, 1), (399, 4), (246, 2), (289, 1), (302, 1), (256, 2), (303, 4), (258, 2), (403, 1), (227, 3), (55, 2), (230, 2), (410, 4), (244, 2), (408, 2), (414, 1), (233, 3), (226, 1), (236, 4), (178, 2), (240, 4), (66, 1), (248, 4), (65, 1), (64, 1), (252, 4), (62, 2), (260, 12), (69, 1), (272, 3), (42, 1), (275, 1), (51, 1), (49, 2), (276, 13), (67, 1), (290, 12), (1164, 8), (1219, 16), (1268, 3)] (by exact rfl) (by decide +kernel)) (goodIn_sub (fun _ h => List.mem_append_right _ h) (by decide +kernel))) (goodIn_sub (fun _ h => List.mem_append_left _ (List.mem_append_right _ h)) (by decide +kernel))
set_option maxRecDepth 20000 in
theorem gL_law_L_unite : GoodIn wsL_law (va_wsS RL 137 yL_unite wsL_unite) := goodIn_app (goodIn_of _ (by decide +kernel)) ggL_law_L_unite
set_option maxRecDepth 20000 in
theorem ggL_law_X8_unite : GoodIn wsL_law wsX8_unite := goodIn_g _ [(445, 1), (419, 3), (5, 1), (422, 1), (315, 1), (188, 3), (311, 4), (446, 4), (128, 1), (139, 1), (316, 5), (427, 4), (130, 6), (321, 4), (137, 2), (431, 4), (129, 1), (325, 4), (142, 1), (329, 2), (141, 1), (143, 6), (331, 5), (140, 1), (336, 14), (191, 5), (350, 12), (1172, 47)] (by exact rfl) (by decide +kernel)
