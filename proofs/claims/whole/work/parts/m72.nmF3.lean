set_option maxRecDepth 20000 in
theorem gL_law_X8_unite : GoodIn wsL_law (wsV RL 139 RX8 yX8_unite wsX8_unite) := goodIn_app (goodIn_of _ (by decide +kernel)) ggL_law_X8_unite
set_option maxRecDepth 20000 in
theorem ggL_law_L_repeat : GoodIn wsL_law wsL_repeat := goodIn_ca (goodIn_ca (goodIn_g _ [(452, 1), (387, 1), (171, 1), (453, 3), (2, 1), (456, 1), (178, 2), (17, 1), (392, 1), (24, 1), (393, 6), (20, 1), (457, 3), (19, 1), (460, 1), (44, 1), (43, 1), (461, 2), (45, 1), (303, 4), (256, 2), (408, 2), (258, 2), (218, 3), (23, 1), (221, 5), (59, 3), (58, 1), (399, 4), (246, 2), (289, 1), (302, 1), (403, 1), (227, 3), (55, 2), (230, 2), (226, 1), (404, 4), (244, 2), (232, 12), (66, 1), (248, 4), (65, 1), (64, 1), (252, 4), (62, 2), (260, 12), (69, 1), (272, 3), (42, 1), (275, 1), (51, 1), (49, 2), (276, 13), (67, 1), (290, 12), (1164, 8), (1219, 3), (1268, 3), (1222, 13)] (by exact rfl) (by decide +kernel)) (goodIn_sub (fun _ h => List.mem_append_left _ (List.mem_append_right _ h)) (by decide +kernel))) (goodIn_sub (fun _ h => List.mem_append_right _ h) (by decide +kernel))
set_option maxRecDepth 20000 in
theorem gL_law_L_repeat : GoodIn wsL_law (va_wsS RL 140 yL_repeat wsL_repeat) := goodIn_app (goodIn_of _ (by decide +kernel)) ggL_law_L_repeat
set_option maxRecDepth 20000 in
theorem ggL_law_X8_repeat : GoodIn wsL_law wsX8_repeat := goodIn_g _ [(466, 1), (419, 3), (5, 1), (422, 1), (315, 1), (188, 3), (311, 4), (467, 4), (130, 4), (135, 1), (129, 1), (471, 4), (128, 1), (139, 1), (316, 5), (427, 4), (134, 1), (321, 4), (137, 2), (431, 4), (325, 4), (142, 1), (329, 2), (141, 1), (143, 6), (331, 5), (140, 1), (336, 14), (191, 5), (350, 12), (1172, 47)] (by exact rfl) (by decide +kernel)
set_option maxRecDepth 20000 in
theorem gL_law_X8_repeat : GoodIn wsL_law (wsV RL 142 RX8 yX8_repeat wsX8_repeat) := goodIn_app (goodIn_of _ (by decide +kernel)) ggL_law_X8_repeat
set_option maxRecDepth 20000 in
theorem ggL_law_L_turn : GoodIn wsL_law wsL_turn := goodIn_ca (goodIn_ca (goodIn_g _ [(477, 1), (387, 1), (171, 1), (478, 3), (2, 1), (481, 1), (17, 1), (24, 1), (392, 1), (482, 4), (393, 6), (20, 1), (218, 3), (23, 1), (221, 5), (59, 3), (58, 1), (486, 1), (256, 2), (487, 1), (305, 2), (488, 1), (303, 2), (489, 1), (258, 2), (226, 4), (55, 2), (230, 2), (410, 4), (244, 2), (408, 2), (414, 1), (233, 7), (178, 2), (240, 4), (246, 2), (66, 1), (248, 4), (65, 1), (64, 1), (252, 4), (62, 2), (260, 12), (69, 1), (272, 3), (42, 1), (275, 1), (51, 1), (49, 2), (276, 13), (67, 1), (289, 14), (1164, 8), (1219, 3), (1268, 3), (1222, 13)] (by exact rfl) (by decide +kernel)) (goodIn_sub (fun _ h => List.mem_append_right _ h) (by decide +kernel))) (goodIn_sub (fun _ h => List.mem_append_left _ (List.mem_append_right _ h)) (by decide +kernel))
set_option maxRecDepth 20000 in
theorem gL_law_L_turn : GoodIn wsL_law (va_wsS RL 143 yL_turn wsL_turn) := goodIn_app (goodIn_of _ (by decide +kernel)) ggL_law_L_turn
set_option maxRecDepth 20000 in
theorem ggL_law_X8_turn : GoodIn wsL_law wsX8_turn := goodIn_g _ [(493, 1), (419, 3), (5, 1), (422, 1), (315, 1), (188, 3), (311, 4), (494, 4), (130, 2), (133, 1), (132, 1), (134, 2), (128, 1), (139, 1), (316, 9), (137, 2), (431, 4), (129, 1), (325, 4), (142, 1), (329, 2), (141, 1), (143, 6), (331, 5), (140, 1), (336, 14), (191, 5), (350, 12), (1172, 47)] (by exact rfl) (by decide +kernel)
set_option maxRecDepth 20000 in
theorem gL_law_X8_turn : GoodIn wsL_law (wsV RL 145 RX8 yX8_turn wsX8_turn) := goodIn_app (goodIn_of _ (by decide +kernel)) ggL_law_X8_turn
set_option maxRecDepth 20000 in
theorem ggL_law_L_compose : GoodIn wsL_law wsL_compose := goodIn_ca (goodIn_ca (goodIn_g _ [(500, 1), (387, 1), (171, 1), (501, 3), (2, 1), (504, 1), (178, 2), (17, 1), (24, 1), (392, 7), (20, 1), (218, 3), (23, 1), (221, 5), (59, 3), (58, 1), (505, 4), (482, 4), (509, 1), (487, 1), (305, 2), (488, 1), (303, 2), (486, 1), (256, 2), (489, 1), (258, 2), (226, 4), (55, 2), (230, 2), (510, 14), (408, 6), (244, 2), (414, 1), (233, 11), (246, 2), (66, 1), (248, 4), (65, 1), (64, 1), (252, 4), (62, 2), (260, 12), (69, 1), (272, 3), (42, 1), (275, 1), (51, 1), (49, 2), (276, 13), (67, 1), (289, 14), (1164, 8), (1219, 16), (1268, 3)] (by exact rfl) (by decide +kernel)) (goodIn_sub (fun _ h => List.mem_append_left _ (List.mem_append_right _ h)) (by decide +kernel))) (goodIn_sub (fun _ h => List.mem_append_right _ h) (by decide +kernel))
set_option maxRecDepth 20000 in
theorem gL_law_L_compose : GoodIn wsL_law (va_wsS RL 146 yL_compose wsL_compose) := goodIn_app (goodIn_of _ (by decide +kernel)) ggL_law_L_compose
set_option maxRecDepth 20000 in
theorem ggL_law_X8_compose : GoodIn wsL_law wsX8_compose := goodIn_g _ [(527, 1), (419, 3), (5, 1), (422, 1), (315, 1), (188, 3), (311, 4), (528, 4), (128, 1), (130, 1), (133, 1), (132, 1), (134, 1), (532, 1), (131, 1), (135, 1), (139, 1), (316, 9), (137, 2), (431, 4), (129, 1), (325, 4), (142, 1), (329, 2), (141, 1), (143, 6), (331, 5), (140, 1), (336, 14), (191, 5), (350, 12), (1172, 47)] (by exact rfl) (by decide +kernel)
set_option maxRecDepth 20000 in
theorem gL_law_X8_compose : GoodIn wsL_law (wsV RL 148 RX8 yX8_compose wsX8_compose) := goodIn_app (goodIn_of _ (by decide +kernel)) ggL_law_X8_compose
set_option maxRecDepth 20000 in
theorem ggL_law_L_side : GoodIn wsL_law wsL_side := goodIn_ca (goodIn_ca (goodIn_g _ [(535, 1), (387, 1), (171, 1), (536, 3), (2, 1), (539, 1), (17, 1), (24, 1), (392, 1), (482, 3), (393, 6), (20, 1), (218, 3), (23, 1), (221, 5), (59, 3), (58, 1), (488, 1), (303, 2), (487, 1), (305, 2), (486, 1), (256, 2), (489, 1), (258, 2), (226, 4), (55, 2), (230, 2), (410, 4), (244, 2), (408, 2), (414, 1), (233, 7), (178, 2), (240, 4), (246, 2), (66, 1), (248, 4), (65, 1), (64, 1), (252, 4), (62, 2), (260, 12), (69, 1), (272, 3), (42, 1), (275, 1), (51, 1), (49, 2), (276, 13), (67, 1), (289, 14), (1164, 8), (1219, 3), (1268, 3), (1222, 13)] (by exact rfl) (by decide +kernel)) (goodIn_sub (fun _ h => List.mem_append_right _ h) (by decide +kernel))) (goodIn_sub (fun _ h => List.mem_append_left _ (List.mem_append_right _ h)) (by decide +kernel))
set_option maxRecDepth 20000 in
theorem gL_law_L_side : GoodIn wsL_law (va_wsS RL 149 yL_side wsL_side) := goodIn_app (goodIn_of _ (by decide +kernel)) ggL_law_L_side
set_option maxRecDepth 20000 in
theorem ggL_law_X8_side : GoodIn wsL_law wsX8_side := goodIn_g _ [(543, 1), (419, 3), (5, 1), (422, 1), (315, 1), (188, 3), (311, 4), (544, 4), (130, 1), (132, 2), (131, 1), (135, 1), (128, 1), (139, 1), (316, 9), (137, 2), (431, 4), (129, 1), (325, 4), (142, 1), (329, 2), (141, 1), (143, 6), (331, 5), (140, 1), (336, 14), (191, 5), (350, 4), (134, 1), (354, 8), (1172, 47)] (by exact rfl) (by decide +kernel)
set_option maxRecDepth 20000 in
theorem gL_law_X8_side : GoodIn wsL_law (wsV RL 152 RX8 yX8_side wsX8_side) := goodIn_app (goodIn_of _ (by decide +kernel)) ggL_law_X8_side
set_option maxRecDepth 20000 in
theorem ggL_law_L_least : GoodIn wsL_law wsL_least := goodIn_ca (goodIn_ca (goodIn_g _ [(550, 1), (387, 1), (171, 1), (551, 3), (2, 1), (554, 1), (28, 1), (17, 1), (24, 1), (393, 6), (20, 1), (555, 4), (178, 2), (559, 3), (19, 1), (562, 1), (43, 1), (461, 2), (563, 1), (303, 4), (564, 3), (27, 1), (567, 1), (76, 3), (568, 3), (75, 1), (571, 2), (94, 1), (573, 1), (95, 1), (93, 1), (574, 3), (92, 1), (577, 4), (256, 4), (581, 8), (84, 1), (79, 3), (589, 8), (82, 2), (597, 4), (408, 2), (601, 15), (85, 2), (616, 17), (219, 2), (23, 1), (221, 5), (59, 3), (58, 1), (633, 8), (87, 2), (641, 17), (233, 3), (658, 1), (227, 3), (55, 2), (230, 2), (659, 3), (236, 12), (66, 1), (248, 4), (65, 1), (64, 1), (252, 4), (62, 2), (260, 12), (69, 1), (272, 3), (42, 1), (275, 1), (51, 1), (49, 2), (276, 13), (67, 1), (289, 14), (1164, 8), (1219, 3), (1268, 3), (1235, 13), (1271, 4), (1222, 13)] (by exact rfl) (by decide +kernel)) (goodIn_sub (fun _ h => List.mem_append_right _ h) (by decide +kernel))) (goodIn_sub (fun _ h => List.mem_append_left _ (List.mem_append_right _ h)) (by decide +kernel))
set_option maxRecDepth 20000 in
theorem gL_law_L_least : GoodIn wsL_law (va_wsS RL 153 yL_least wsL_least) := goodIn_app (goodIn_of _ (by decide +kernel)) ggL_law_L_least
set_option maxRecDepth 20000 in
theorem ggL_law_X8_least : GoodIn wsL_law wsX8_least := goodIn_g _ [(665, 1), (419, 3), (5, 1), (422, 1), (315, 1), (188, 3), (311, 4), (666, 4), (130, 1), (132, 3), (670, 5), (154, 1), (139, 1), (151, 1), (675, 4), (149, 2), (679, 4), (131, 1), (135, 1), (683, 4), (152, 2), (687, 11), (129, 1), (698, 4), (155, 1), (702, 8), (316, 9), (137, 2), (325, 4), (142, 1), (329, 2), (141, 1), (143, 6), (331, 5), (140, 1), (336, 14), (191, 5), (350, 4), (128, 1), (354, 8), (1172, 47)] (by exact rfl) (by decide +kernel)
set_option maxRecDepth 20000 in
theorem gL_law_X8_least : GoodIn wsL_law (wsV RL 155 RX8 yX8_least wsX8_least) := goodIn_app (goodIn_of _ (by decide +kernel)) ggL_law_X8_least
set_option maxRecDepth 20000 in
theorem ggL_law_L_meet : GoodIn wsL_law wsL_meet := goodIn_ca (goodIn_ca (goodIn_g _ [(712, 1), (387, 1), (171, 1), (713, 3), (2, 1), (716, 1), (28, 1), (17, 1), (24, 1), (393, 6), (20, 1), (555, 4), (178, 2), (559, 3), (19, 1), (562, 1), (43, 1), (461, 2), (563, 1), (303, 4), (717, 3), (27, 1), (720, 1), (76, 3), (568, 3), (75, 1), (571, 2), (94, 1), (573, 1), (95, 1), (93, 1), (574, 3), (92, 1), (577, 4), (256, 4), (585, 4), (84, 1), (79, 3), (589, 8), (82, 2), (597, 4), (408, 2), (601, 15), (85, 2), (616, 17), (219, 2), (23, 1), (221, 5), (59, 3), (58, 1), (633, 8), (87, 2), (641, 17), (233, 3), (658, 1), (227, 3), (55, 2), (230, 2), (659, 3), (236, 12), (66, 1), (248, 4), (65, 1), (64, 1), (252, 4), (62, 2), (260, 12), (69, 1), (272, 3), (42, 1), (275, 1), (51, 1), (49, 2), (276, 13), (67, 1), (289, 14), (1164, 8), (1219, 3), (1268, 3), (1235, 13), (1271, 4), (1222, 13)] (by exact rfl) (by decide +kernel)) (goodIn_sub (fun _ h => List.mem_append_right _ h) (by decide +kernel))) (goodIn_sub (fun _ h => List.mem_append_left _ (List.mem_append_right _ h)) (by decide +kernel))
set_option maxRecDepth 20000 in
theorem gL_law_L_meet : GoodIn wsL_law (va_wsS RL 156 yL_meet wsL_meet) := goodIn_app (goodIn_of _ (by decide +kernel)) ggL_law_L_meet
set_option maxRecDepth 20000 in
theorem ggL_law_X8_meet : GoodIn wsL_law wsX8_meet := goodIn_g _ [(724, 1), (419, 3), (5, 1), (422, 1), (315, 1), (188, 3), (311, 4), (666, 4), (130, 1), (132, 3), (670, 5), (154, 1), (139, 1), (151, 1), (675, 4), (149, 2), (679, 4), (131, 1), (135, 1), (683, 4), (152, 2), (687, 11), (129, 1), (698, 4), (155, 1), (702, 8), (316, 9), (137, 2), (325, 4), (142, 1), (329, 2), (141, 1), (143, 6), (331, 5), (140, 1), (336, 14), (191, 5), (350, 4), (128, 1), (354, 8), (1172, 47)] (by exact rfl) (by decide +kernel)
set_option maxRecDepth 20000 in
theorem gL_law_X8_meet : GoodIn wsL_law (wsV RL 159 RX8 yX8_meet wsX8_meet) := goodIn_app (goodIn_of _ (by decide +kernel)) ggL_law_X8_meet
set_option maxRecDepth 20000 in
theorem ggL_law_L_rule : GoodIn wsL_law wsL_rule := goodIn_ca (goodIn_ca (goodIn_g _ [(727, 1), (170, 2), (728, 3), (2, 1), (731, 1), (178, 2), (24, 1), (732, 3), (176, 2), (180, 3), (215, 3), (735, 6), (218, 3), (23, 1), (221, 5), (59, 3), (58, 1), (741, 7), (226, 4), (55, 2), (230, 2), (748, 4), (232, 8), (20, 1), (17, 1), (240, 8), (66, 1), (248, 4), (65, 1), (64, 1), (252, 4), (62, 2), (256, 16), (69, 1), (272, 3), (42, 1), (275, 1), (51, 1), (49, 2), (276, 13), (67, 1), (289, 18), (1164, 8), (1222, 13), (1219, 3), (1268, 3)] (by exact rfl) (by decide +kernel)) (goodIn_sub (fun _ h => List.mem_append_left _ (List.mem_append_right _ h)) (by decide +kernel))) (goodIn_sub (fun _ h => List.mem_append_left _ (List.mem_append_left _ (List.mem_append_right _ h))) (by decide +kernel))
set_option maxRecDepth 20000 in
theorem gL_law_L_rule : GoodIn wsL_law (va_wsS RL 160 yL_rule wsL_rule) := goodIn_app (goodIn_of _ (by decide +kernel)) ggL_law_L_rule
set_option maxRecDepth 20000 in
theorem ggL_law_X8_rule : GoodIn wsL_law wsX8_rule := goodIn_g _ [(755, 3), (5, 1), (758, 1), (188, 3), (311, 5), (759, 4), (139, 1), (316, 5), (763, 4), (321, 4), (137, 2), (325, 4), (142, 1), (329, 2), (141, 1), (143, 6), (331, 5), (140, 1), (336, 14), (191, 5), (350, 4), (128, 8), (354, 8), (1172, 47)] (by exact rfl) (by decide +kernel)
set_option maxRecDepth 20000 in
theorem gL_law_X8_rule : GoodIn wsL_law (wsV RL 163 RX8 yX8_rule wsX8_rule) := goodIn_app (goodIn_of _ (by decide +kernel)) ggL_law_X8_rule
set_option maxRecDepth 20000 in
theorem ggL_law_L_size : GoodIn wsL_law wsL_size := goodIn_ca (goodIn_g _ [(769, 1), (387, 1), (770, 3), (2, 1), (773, 1), (17, 1), (392, 1), (482, 2), (393, 6), (20, 1), (1164, 8), (1219, 3), (1268, 3)] (by exact rfl) (by decide +kernel)) (goodIn_sub (fun _ h => List.mem_append_right _ h) (by decide +kernel))
set_option maxRecDepth 20000 in
theorem gL_law_L_size : GoodIn wsL_law (va_wsS RL 164 yL_size wsL_size) := goodIn_app (goodIn_of _ (by decide +kernel)) ggL_law_L_size
set_option maxRecDepth 20000 in
theorem ggL_law_X8_size : GoodIn wsL_law wsX8_size := goodIn_g _ [(777, 1), (128, 1), (130, 1), (419, 3), (5, 1), (422, 1), (315, 1), (188, 8), (1172, 47)] (by exact rfl) (by decide +kernel)
set_option maxRecDepth 20000 in
theorem gL_law_X8_size : GoodIn wsL_law (wsV RL 166 RX8 yX8_size wsX8_size) := goodIn_app (goodIn_of _ (by decide +kernel)) ggL_law_X8_size
set_option maxRecDepth 20000 in
theorem ggL_law_L_isEnd : GoodIn wsL_law wsL_isEnd := goodIn_ca (goodIn_g _ [(780, 1), (387, 1), (781, 3), (2, 1), (784, 1), (397, 2), (17, 1), (392, 1), (522, 1), (393, 4), (20, 1), (523, 1), (408, 2), (1164, 8), (1219, 3)] (by exact rfl) (by decide +kernel)) (goodIn_sub (fun _ h => List.mem_append_right _ h) (by decide +kernel))
set_option maxRecDepth 20000 in
theorem gL_law_L_isEnd : GoodIn wsL_law (va_wsS RL 167 yL_isEnd wsL_isEnd) := goodIn_app (goodIn_of _ (by decide +kernel)) ggL_law_L_isEnd
set_option maxRecDepth 20000 in
theorem ggL_law_X8_isEnd : GoodIn wsL_law wsX8_isEnd := goodIn_g _ [(788, 1), (128, 1), (419, 3), (5, 1), (422, 1), (315, 1), (188, 8), (431, 4), (129, 1), (1172, 47)] (by exact rfl) (by decide +kernel)
set_option maxRecDepth 20000 in
theorem gL_law_X8_isEnd : GoodIn wsL_law (wsV RL 169 RX8 yX8_isEnd wsX8_isEnd) := goodIn_app (goodIn_of _ (by decide +kernel)) ggL_law_X8_isEnd
set_option maxRecDepth 20000 in
theorem ggL_law_L_arc : GoodIn wsL_law wsL_arc := goodIn_ca (goodIn_ca (goodIn_g _ [(791, 1), (387, 1), (170, 1), (792, 3), (2, 1), (795, 1), (397, 2), (176, 2), (17, 1), (482, 4), (393, 4), (20, 1), (486, 1), (256, 2), (488, 1), (303, 2), (487, 1), (305, 2), (489, 1), (258, 2), (1164, 8), (1219, 3), (1268, 3)] (by exact rfl) (by decide +kernel)) (goodIn_sub (fun _ h => List.mem_append_right _ h) (by decide +kernel))) (goodIn_sub (fun _ h => List.mem_append_left _ (List.mem_append_left _ (List.mem_append_right _ h))) (by decide +kernel))
set_option maxRecDepth 20000 in
theorem gL_law_L_arc : GoodIn wsL_law (va_wsS RL 170 yL_arc wsL_arc) := goodIn_app (goodIn_of _ (by decide +kernel)) ggL_law_L_arc
set_option maxRecDepth 20000 in
theorem ggL_law_X8_arc : GoodIn wsL_law wsX8_arc := goodIn_g _ [(799, 1), (130, 6), (419, 3), (5, 1), (422, 1), (315, 1), (188, 8), (1172, 47)] (by exact rfl) (by decide +kernel)
set_option maxRecDepth 20000 in
theorem gL_law_X8_arc : GoodIn wsL_law (wsV RL 172 RX8 yX8_arc wsX8_arc) := goodIn_app (goodIn_of _ (by decide +kernel)) ggL_law_X8_arc
set_option maxRecDepth 20000 in
theorem ggL_law_L_isPlain : GoodIn wsL_law wsL_isPlain := goodIn_ca (goodIn_g _ [(802, 1), (387, 1), (803, 3), (2, 1), (806, 1), (17, 1), (393, 6), (20, 1), (559, 3), (19, 1), (562, 1), (43, 1), (461, 2), (563, 1), (303, 4), (1164, 8), (1219, 3), (1268, 3)] (by exact rfl) (by decide +kernel)) (goodIn_sub (fun _ h => List.mem_append_right _ h) (by decide +kernel))
