set_option maxRecDepth 20000 in
theorem gL_law_L_rule : GoodIn wsL_law (va_wsS RL 160 yL_rule wsL_rule) := goodIn_app (goodIn_of _ (by decide +kernel)) ggL_law_L_rule
set_option maxRecDepth 20000 in
theorem ggL_law_X8_rule : GoodIn wsL_law wsX8_rule := goodIn_g _ [(755, 3), (5, 1), (758, 1), (188, 3), (311, 5), (759, 4), (139, 1), (316, 5), (763, 4), (321, 4), (137, 2), (325, 4), (142, 1), (329, 2), (141, 1), (143, 6), (331, 5), (140, 1), (336, 14), (191, 5), (350, 4), (128, 8), (354, 8), (1172, 47)] (by exact rfl) (by decide +kernel)
set_option maxRecDepth 20000 in
theorem gL_law_X8_rule : GoodIn wsL_law (wsV RL 163 RX8 yX8_rule wsX8_rule) := goodIn_app (goodIn_of _ (by decide +kernel)) ggL_law_X8_rule
set_option maxRecDepth 20000 in
theorem ggL_law_L_size : GoodIn wsL_law wsL_size := goodIn_ca (goodIn_g _ [(769, 1), (387, 1), (770, 3), (2, 1), (773, 1), (17, 1), (392, 1), (482, 2), (393, 6), (20, 1), (1164, 8), (1219, 3), (1268, 3)] (by exact rfl) (by decide +kernel)) (goodIn_sub (fun _ h => List.mem_append_right _ h) (by decide +kernel))
set_option maxRecDepth 20000 in
theorem gL_law_L_size : GoodIn wsL_law (va_wsS RL 164 yL_size wsL_size) := goodIn_app (goodIn_of _ (by decide +kernel)) ggL_law_L_size
set_option maxRecDepth 20000 in
theorem ggL_law_X8_size : GoodIn wsL_law wsX8_size := goodIn_g _ [(777, 1), (128, 1), (130, 1), (419, 3), (5, 1), (422, 1), (315, 1), (188, 8), (1172, 47)] (by exact rfl) (by decide +kernel)
set_option maxRecDepth 20000 in
theorem gL_law_X8_size : GoodIn wsL_law (wsV RL 166 RX8 yX8_size wsX8_size) := goodIn_app (goodIn_of _ (by decide +kernel)) ggL_law_X8_size
set_option maxRecDepth 20000 in
theorem ggL_law_L_isEnd : GoodIn wsL_law wsL_isEnd := goodIn_ca (goodIn_g _ [(780, 1), (387, 1), (781, 3), (2, 1), (784, 1), (397, 2), (17, 1), (392, 1), (522, 1), (393, 4), (20, 1), (523, 1), (408, 2), (1164, 8), (1219, 3)] (by exact rfl) (by decide +kernel)) (goodIn_sub (fun _ h => List.mem_append_right _ h) (by decide +kernel))
set_option maxRecDepth 20000 in
theorem gL_law_L_isEnd : GoodIn wsL_law (va_wsS RL 167 yL_isEnd wsL_isEnd) := goodIn_app (goodIn_of _ (by decide +kernel)) ggL_law_L_isEnd
set_option maxRecDepth 20000 in
theorem ggL_law_X8_isEnd : GoodIn wsL_law wsX8_isEnd := goodIn_g _ [(788, 1), (128, 1), (419, 3), (5, 1), (422, 1), (315, 1), (188, 8), (431, 4), (129, 1), (1172, 47)] (by exact rfl) (by decide +kernel)
set_option maxRecDepth 20000 in
theorem gL_law_X8_isEnd : GoodIn wsL_law (wsV RL 169 RX8 yX8_isEnd wsX8_isEnd) := goodIn_app (goodIn_of _ (by decide +kernel)) ggL_law_X8_isEnd
set_option maxRecDepth 20000 in
theorem ggL_law_L_arc : GoodIn wsL_law wsL_arc := goodIn_ca (goodIn_ca (goodIn_g _ [(791, 1), (387, 1), (170, 1), (792, 3), (2, 1), (795, 1), (397, 2), (176, 2), (17, 1), (482, 4), (393, 4), (20, 1), (486, 1), (256, 2), (488, 1), (303, 2), (487, 1), (305, 2), (489, 1), (258, 2), (1164, 8), (1219, 3), (1268, 3)] (by exact rfl) (by decide +kernel)) (goodIn_sub (fun _ h => List.mem_append_right _ h) (by decide +kernel))) (goodIn_sub (fun _ h => List.mem_append_left _ (List.mem_append_left _ (List.mem_append_right _ h))) (by decide +kernel))
set_option maxRecDepth 20000 in
theorem gL_law_L_arc : GoodIn wsL_law (va_wsS RL 170 yL_arc wsL_arc) := goodIn_app (goodIn_of _ (by decide +kernel)) ggL_law_L_arc
set_option maxRecDepth 20000 in
theorem ggL_law_X8_arc : GoodIn wsL_law wsX8_arc := goodIn_g _ [(799, 1), (130, 6), (419, 3), (5, 1), (422, 1), (315, 1), (188, 8), (1172, 47)] (by exact rfl) (by decide +kernel)
set_option maxRecDepth 20000 in
theorem gL_law_X8_arc : GoodIn wsL_law (wsV RL 172 RX8 yX8_arc wsX8_arc) := goodIn_app (goodIn_of _ (by decide +kernel)) ggL_law_X8_arc
set_option maxRecDepth 20000 in
theorem ggL_law_L_isPlain : GoodIn wsL_law wsL_isPlain := goodIn_ca (goodIn_g _ [(802, 1), (387, 1), (803, 3), (2, 1), (806, 1), (17, 1), (393, 6), (20, 1), (559, 3), (19, 1), (562, 1), (43, 1), (461, 2), (563, 1), (303, 4), (1164, 8), (1219, 3), (1268, 3)] (by exact rfl) (by decide +kernel)) (goodIn_sub (fun _ h => List.mem_append_right _ h) (by decide +kernel))
set_option maxRecDepth 20000 in
theorem gL_law_L_isPlain : GoodIn wsL_law (va_wsS RL 173 yL_isPlain wsL_isPlain) := goodIn_app (goodIn_of _ (by decide +kernel)) ggL_law_L_isPlain
set_option maxRecDepth 20000 in
theorem ggL_law_X8_isPlain : GoodIn wsL_law wsX8_isPlain := goodIn_g _ [(810, 1), (419, 3), (5, 1), (422, 1), (315, 1), (188, 8), (666, 4), (130, 1), (132, 3), (1172, 47)] (by exact rfl) (by decide +kernel)
set_option maxRecDepth 20000 in
theorem gL_law_X8_isPlain : GoodIn wsL_law (wsV RL 175 RX8 yX8_isPlain wsX8_isPlain) := goodIn_app (goodIn_of _ (by decide +kernel)) ggL_law_X8_isPlain
set_option maxRecDepth 20000 in
theorem ggL_law_L_answer : GoodIn wsL_law wsL_answer := goodIn_ca (goodIn_ca (goodIn_g _ [(813, 1), (387, 1), (170, 1), (814, 3), (2, 1), (817, 1), (176, 2), (32, 1), (393, 6), (20, 1), (818, 7), (17, 1), (14, 2), (825, 3), (31, 1), (828, 1), (102, 1), (829, 1), (223, 3), (100, 1), (99, 1), (830, 1), (278, 3), (103, 1), (113, 1), (831, 7), (105, 4), (256, 2), (305, 2), (303, 2), (258, 2), (838, 6), (109, 1), (844, 1), (408, 2), (845, 32), (104, 1), (110, 3), (877, 43), (1164, 8), (1248, 14), (1219, 3), (1268, 3)] (by exact rfl) (by decide +kernel)) (goodIn_sub (fun _ h => List.mem_append_left _ (List.mem_append_left _ (List.mem_append_right _ h))) (by decide +kernel))) (goodIn_sub (fun _ h => List.mem_append_right _ h) (by decide +kernel))
set_option maxRecDepth 20000 in
theorem gL_law_L_answer : GoodIn wsL_law (va_wsS RL 176 yL_answer wsL_answer) := goodIn_app (goodIn_of _ (by decide +kernel)) ggL_law_L_answer
set_option maxRecDepth 20000 in
theorem ggL_law_X8_answer : GoodIn wsL_law wsX8_answer := goodIn_g _ [(923, 1), (419, 3), (5, 1), (422, 1), (315, 1), (188, 8), (924, 4), (156, 1), (928, 1), (160, 3), (929, 5), (187, 1), (130, 1), (135, 1), (134, 1), (131, 1), (431, 4), (129, 1), (934, 4), (127, 1), (938, 4), (133, 1), (132, 1), (942, 20), (128, 1), (962, 8), (1172, 47)] (by exact rfl) (by decide +kernel)
set_option maxRecDepth 20000 in
theorem gL_law_X8_answer : GoodIn wsL_law (wsV RL 179 RX8 yX8_answer wsX8_answer) := goodIn_app (goodIn_of _ (by decide +kernel)) ggL_law_X8_answer
set_option maxRecDepth 20000 in
theorem ggL_law_L_answers : GoodIn wsL_law wsL_answers := goodIn_ca (goodIn_g _ [(972, 1), (387, 1), (973, 3), (2, 1), (976, 1), (32, 1), (393, 6), (20, 1), (821, 4), (17, 1), (14, 2), (825, 3), (31, 1), (828, 1), (102, 1), (829, 1), (223, 3), (100, 1), (99, 1), (830, 1), (278, 3), (103, 1), (113, 1), (831, 7), (105, 4), (256, 2), (305, 2), (303, 2), (258, 2), (838, 6), (109, 1), (844, 1), (408, 2), (845, 32), (104, 1), (110, 3), (877, 39), (1164, 8), (1248, 14), (1219, 3), (1268, 3)] (by exact rfl) (by decide +kernel)) (goodIn_sub (fun _ h => List.mem_append_right _ h) (by decide +kernel))
set_option maxRecDepth 20000 in
theorem gL_law_L_answers : GoodIn wsL_law (va_wsS RL 180 yL_answers wsL_answers) := goodIn_app (goodIn_of _ (by decide +kernel)) ggL_law_L_answers
set_option maxRecDepth 20000 in
theorem ggL_law_X8_answers : GoodIn wsL_law wsX8_answers := goodIn_g _ [(980, 1), (419, 3), (5, 1), (422, 1), (315, 1), (188, 8), (924, 4), (156, 1), (928, 1), (160, 3), (929, 5), (187, 1), (130, 1), (135, 1), (134, 1), (131, 1), (431, 4), (129, 1), (934, 4), (127, 1), (938, 4), (133, 1), (132, 1), (942, 20), (128, 1), (962, 4), (1172, 47)] (by exact rfl) (by decide +kernel)
set_option maxRecDepth 20000 in
theorem gL_law_X8_answers : GoodIn wsL_law (wsV RL 182 RX8 yX8_answers wsX8_answers) := goodIn_app (goodIn_of _ (by decide +kernel)) ggL_law_X8_answers
set_option maxRecDepth 20000 in
theorem ggL_law_L_cost : GoodIn wsL_law wsL_cost := goodIn_ca (goodIn_g _ [(983, 1), (387, 1), (984, 3), (2, 1), (987, 1), (32, 1), (393, 6), (20, 1), (821, 4), (17, 1), (14, 2), (825, 3), (31, 1), (828, 1), (102, 1), (829, 1), (223, 3), (100, 1), (99, 1), (830, 1), (278, 3), (103, 1), (113, 1), (831, 7), (105, 4), (256, 2), (305, 2), (303, 2), (258, 2), (838, 6), (109, 1), (844, 1), (408, 2), (845, 28), (988, 4), (1164, 8), (1248, 14), (1219, 3), (1268, 3)] (by exact rfl) (by decide +kernel)) (goodIn_sub (fun _ h => List.mem_append_right _ h) (by decide +kernel))
set_option maxRecDepth 20000 in
theorem gL_law_L_cost : GoodIn wsL_law (va_wsS RL 183 yL_cost wsL_cost) := goodIn_app (goodIn_of _ (by decide +kernel)) ggL_law_L_cost
set_option maxRecDepth 20000 in
theorem ggL_law_X8_cost : GoodIn wsL_law wsX8_cost := goodIn_g _ [(995, 1), (156, 1), (928, 1), (419, 3), (5, 1), (422, 1), (315, 1), (188, 8), (930, 4), (187, 1), (130, 1), (135, 1), (134, 1), (131, 1), (431, 4), (129, 1), (934, 4), (127, 1), (938, 4), (133, 1), (132, 1), (1172, 47)] (by exact rfl) (by decide +kernel)
set_option maxRecDepth 20000 in
theorem gL_law_X8_cost : GoodIn wsL_law (wsV RL 185 RX8 yX8_cost wsX8_cost) := goodIn_app (goodIn_of _ (by decide +kernel)) ggL_law_X8_cost
set_option maxRecDepth 20000 in
theorem ggL_law_L_best : GoodIn wsL_law wsL_best := goodIn_ca (goodIn_g _ [(998, 1), (387, 1), (999, 3), (2, 1), (1002, 1), (32, 1), (393, 6), (20, 1), (818, 7), (17, 1), (14, 2), (825, 3), (31, 1), (828, 1), (102, 1), (829, 1), (223, 3), (100, 1), (99, 1), (830, 1), (278, 3), (103, 1), (113, 1), (831, 7), (105, 4), (256, 2), (305, 2), (303, 2), (258, 2), (838, 6), (109, 1), (844, 1), (408, 2), (845, 32), (104, 1), (110, 3), (877, 43), (1164, 8), (1248, 14), (1219, 3), (1268, 3)] (by exact rfl) (by decide +kernel)) (goodIn_sub (fun _ h => List.mem_append_right _ h) (by decide +kernel))
set_option maxRecDepth 20000 in
theorem gL_law_L_best : GoodIn wsL_law (va_wsS RL 186 yL_best wsL_best) := goodIn_app (goodIn_of _ (by decide +kernel)) ggL_law_L_best
set_option maxRecDepth 20000 in
theorem ggL_law_X8_best : GoodIn wsL_law wsX8_best := goodIn_g _ [(1006, 1), (156, 1), (928, 1), (419, 3), (5, 1), (422, 1), (315, 1), (188, 8), (930, 4), (187, 1), (130, 1), (135, 1), (134, 1), (131, 1), (431, 4), (129, 1), (934, 4), (127, 1), (938, 4), (133, 1), (132, 1), (1007, 4), (929, 1), (162, 1), (1011, 4), (157, 2), (1015, 4), (950, 4), (1019, 4), (128, 1), (1023, 4), (966, 4), (1172, 47)] (by exact rfl) (by decide +kernel)
set_option maxRecDepth 20000 in
theorem gL_law_X8_best : GoodIn wsL_law (wsV RL 189 RX8 yX8_best wsX8_best) := goodIn_app (goodIn_of _ (by decide +kernel)) ggL_law_X8_best
set_option maxRecDepth 20000 in
theorem ggL_law_L_changes : GoodIn wsL_law wsL_changes := goodIn_ca (goodIn_g _ [(1029, 1), (387, 1), (1030, 3), (2, 1), (1033, 1), (32, 1), (17, 1), (14, 2), (393, 6), (20, 1), (825, 3), (31, 1), (828, 1), (102, 1), (829, 1), (223, 3), (100, 1), (99, 1), (830, 1), (278, 3), (103, 1), (113, 1), (831, 7), (105, 4), (256, 2), (305, 2), (303, 2), (258, 2), (838, 6), (109, 1), (844, 1), (408, 2), (845, 28), (988, 4), (1164, 8), (1248, 14), (1219, 3), (1268, 3)] (by exact rfl) (by decide +kernel)) (goodIn_sub (fun _ h => List.mem_append_right _ h) (by decide +kernel))
set_option maxRecDepth 20000 in
theorem gL_law_L_changes : GoodIn wsL_law (va_wsS RL 190 yL_changes wsL_changes) := goodIn_app (goodIn_of _ (by decide +kernel)) ggL_law_L_changes
set_option maxRecDepth 20000 in
theorem ggL_law_X8_changes : GoodIn wsL_law wsX8_changes := goodIn_g _ [(1037, 1), (156, 1), (928, 1), (419, 3), (5, 1), (422, 1), (315, 1), (188, 8), (1038, 4), (187, 1), (130, 1), (132, 1), (135, 1), (131, 1), (431, 4), (129, 1), (1042, 11), (127, 1), (1172, 47)] (by exact rfl) (by decide +kernel)
set_option maxRecDepth 20000 in
theorem gL_law_X8_changes : GoodIn wsL_law (wsV RL 192 RX8 yX8_changes wsX8_changes) := goodIn_app (goodIn_of _ (by decide +kernel)) ggL_law_X8_changes
set_option maxRecDepth 20000 in
theorem ggL_law_L_mended : GoodIn wsL_law wsL_mended := goodIn_ca (goodIn_g _ [(1055, 1), (387, 1), (1056, 3), (2, 1), (1059, 1), (32, 1), (17, 1), (14, 2), (393, 6), (20, 1), (818, 3), (825, 3), (31, 1), (828, 1), (102, 1), (829, 1), (223, 3), (100, 1), (99, 1), (830, 1), (278, 3), (103, 1), (113, 1), (831, 7), (105, 4), (256, 2), (305, 2), (303, 2), (258, 2), (838, 6), (109, 1), (844, 1), (408, 2), (845, 32), (104, 1), (110, 3), (877, 43), (1164, 8), (1248, 14), (1219, 3), (1268, 3)] (by exact rfl) (by decide +kernel)) (goodIn_sub (fun _ h => List.mem_append_right _ h) (by decide +kernel))
set_option maxRecDepth 20000 in
theorem gL_law_L_mended : GoodIn wsL_law (va_wsS RL 193 yL_mended wsL_mended) := goodIn_app (goodIn_of _ (by decide +kernel)) ggL_law_L_mended
set_option maxRecDepth 20000 in
theorem ggL_law_X8_mended : GoodIn wsL_law wsX8_mended := goodIn_g _ [(1063, 1), (156, 1), (928, 1), (419, 3), (5, 1), (422, 1), (315, 1), (188, 8), (1038, 4), (187, 1), (130, 1), (132, 1), (135, 1), (131, 1), (431, 4), (129, 1), (1042, 11), (127, 1), (1064, 4), (929, 1), (162, 1), (1011, 4), (157, 2), (1068, 4), (1019, 4), (128, 1), (1072, 4), (966, 4), (1172, 47)] (by exact rfl) (by decide +kernel)
set_option maxRecDepth 20000 in
theorem gL_law_X8_mended : GoodIn wsL_law (wsV RL 195 RX8 yX8_mended wsX8_mended) := goodIn_app (goodIn_of _ (by decide +kernel)) ggL_law_X8_mended
set_option maxRecDepth 20000 in
theorem ggL_law_L_apart : GoodIn wsL_law wsL_apart := goodIn_ca (goodIn_ca (goodIn_g _ [(1078, 1), (387, 1), (171, 1), (1079, 3), (2, 1), (1082, 1), (28, 1), (17, 1), (393, 6), (20, 1), (818, 3), (555, 4), (178, 2), (559, 3), (19, 1), (562, 1), (43, 1), (461, 2), (563, 1), (303, 4), (717, 3), (27, 1), (720, 1), (76, 3), (568, 3), (75, 1), (571, 2), (94, 1), (573, 1), (95, 1), (93, 1), (574, 3), (92, 1), (577, 4), (256, 4), (585, 4), (84, 1), (79, 3), (589, 8), (82, 2), (597, 4), (408, 2), (601, 11), (1083, 4), (620, 8), (1087, 8), (1164, 8), (1219, 3), (1268, 3), (1235, 13), (1271, 4)] (by exact rfl) (by decide +kernel)) (goodIn_sub (fun _ h => List.mem_append_right _ h) (by decide +kernel))) (goodIn_sub (fun _ h => List.mem_append_left _ (List.mem_append_right _ h)) (by decide +kernel))
