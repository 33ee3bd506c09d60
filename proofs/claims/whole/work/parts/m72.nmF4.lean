set_option maxRecDepth 20000 in
theorem gL_law_L_isPlain : GoodIn wsL_law (va_wsS RL 173 yL_isPlain wsL_isPlain) := goodIn_app (goodIn_of _ (by decide +kernel)) ggL_law_L_isPlain
set_option maxRecDepth 20000 in
theorem ggL_law_X8_isPlain : GoodIn wsL_law wsX8_isPlain := goodIn_g _ [(810, 1), (419, 3), (5, 1), (422, 1), (315, 1), (188, 8), (666, 4), (130, 1), (132, 3), (1172, 47)] (by exact rfl) (by decide +kernel)
set_option maxRecDepth 20000 in
theorem gL_law_X8_isPlain : GoodIn wsL_law (wsV RL 175 RX8 yX8_isPlain wsX8_isPlain) := goodIn_app (goodIn_of _ (by decide +kernel)) ggL_law_X8_isPlain
set_option maxRecDepth 20000 in
theorem ggL_law_L_answer : GoodIn wsL_law wsL_answer := goodIn_ca (goodIn_ca (goodIn_g _ [(813, 1), (387, 1), (170, 1), (814, 3), (2, 1), (817, 1), (176, 2), (32, 1), (393, 6), (20, 1), (818, 7), (17, 1), (14, 2), (825, 3), (31, 1), (828, 1), (102, 1), (829, 1), (223, 3), (100, 1), (99, 1), (830, 1), (278, 3), (103, 1), (113, 1), (831, 7), (105, 4), (256, 2), (305, 2), (303, 2), (258, 2), (838, 6), (109, 1), (844, 1), (408, 2), (845, 32), (104, 1), (110, 3), (877, 43), (1164, 8), (1248, 14), (1219, 3), (1268, 3)] (by exact rfl) (by decide +kernel)) (goodIn_sub (fun _ h => List.mem_append_left _ (List.mem_append_left _ (List.mem_append_right _ h))) (by decide +kernel))) (goodIn_sub (fun _ h => List.mem_append_right _ h) (by decide +kernel))
set_option maxRecDepth 20000 in
theorem gL_law_L_answer : GoodIn wsL_law (va_wsS RL 176 yL_answer wsL_answer) := goodIn_app (goodIn_of _ (by decide +kernel)) ggL_law_L_answer
set_option maxRecDepth 20000 in
theorem ggL_law_X8_answer : GoodIn wsL_law wsX8_answer := goodIn_g _ [(923, 1), (419, 3), (5, 1), (422, 1), (315, 1), (188, 8), (924, 4), (156, 1), (928, 1), (160, 3), (929, 5), (187, 1), (130, 1), (135, 1), (134, 1), (131, 1), (431, 4), (129, 1), (934, 4), (127, 1), (938, 4), (133, 1), (132, 1), (942, 20), (128, 1), (962, 8), (1172, 47)] (by exact rfl) (by decide +kernel)
set_option maxRecDepth 20000 in
theorem gL_law_X8_answer : GoodIn wsL_law (wsV RL 179 RX8 yX8_answer wsX8_answer) := goodIn_app (goodIn_of _ (by decide +kernel)) ggL_law_X8_answer
set_option maxRecDepth 20000 in
theorem ggL_law_L_answers : GoodIn wsL_law wsL_answers := goodIn_ca (goodIn_g _ [(972, 1), (387, 1), (973, 3), (2, 1), (976, 1), (32, 1), (393, 6), (20, 1), (821, 4), (17, 1), (14, 2), (825, 3), (31, 1), (828, 1), (102, 1), (829, 1), (223, 3), (100, 1), (99, 1), (830, 1), (278, 3), (103, 1), (113, 1), (831, 7), (105, 4), (256, 2), (305, 2), (303, 2), (258, 2), (838, 6), (109, 1), (844, 1), (408, 2), (845, 32), (104, 1), (110, 3), (877, 39), (1164, 8), (1248, 14), (1219, 3), (1268, 3)] (by exact rfl) (by decide +kernel)) (goodIn_sub (fun _ h => List.mem_append_right _ h) (by decide +kernel))
set_option maxRecDepth 20000 in
theorem gL_law_L_answers : GoodIn wsL_law (va_wsS RL 180 yL_answers wsL_answers) := goodIn_app (goodIn_of _ (by decide +kernel)) ggL_law_L_answers
set_option maxRecDepth 20000 in
theorem ggL_law_X8_answers : GoodIn wsL_law wsX8_answers := goodIn_g _ [(980, 1), (419, 3), (5, 1), (422, 1), (315, 1), (188, 8), (924, 4), (156, 1), (928, 1), (160, 3), (929, 5), (187, 1), (130, 1), (135, 1), (134, 1), (131, 1), (431, 4), (129, 1), (934, 4), (127, 1), (938, 4), (133, 1), (132, 1), (942, 20), (128, 1), (962, 4), (1172, 47)] (by exact rfl) (by decide +kernel)
set_option maxRecDepth 20000 in
theorem gL_law_X8_answers : GoodIn wsL_law (wsV RL 182 RX8 yX8_answers wsX8_answers) := goodIn_app (goodIn_of _ (by decide +kernel)) ggL_law_X8_answers
set_option maxRecDepth 20000 in
theorem ggL_law_L_cost : GoodIn wsL_law wsL_cost := goodIn_ca (goodIn_g _ [(983, 1), (387, 1), (984, 3), (2, 1), (987, 1), (32, 1), (393, 6), (20, 1), (821, 4), (17, 1), (14, 2), (825, 3), (31, 1), (828, 1), (102, 1), (829, 1), (223, 3), (100, 1), (99, 1), (830, 1), (278, 3), (103, 1), (113, 1), (831, 7), (105, 4), (256, 2), (305, 2), (303, 2), (258, 2), (838, 6), (109, 1), (844, 1), (408, 2), (845, 28), (988, 4), (1164, 8), (1248, 14), (1219, 3), (1268, 3)] (by exact rfl) (by decide +kernel)) (goodIn_sub (fun _ h => List.mem_append_right _ h) (by decide +kernel))
set_option maxRecDepth 20000 in
theorem gL_law_L_cost : GoodIn wsL_law (va_wsS RL 183 yL_cost wsL_cost) := goodIn_app (goodIn_of _ (by decide +kernel)) ggL_law_L_cost
set_option maxRecDepth 20000 in
theorem ggL_law_X8_cost : GoodIn wsL_law wsX8_cost := goodIn_g _ [(995, 1), (156, 1), (928, 1), (419, 3), (5, 1), (422, 1), (315, 1), (188, 8), (930, 4), (187, 1), (130, 1), (135, 1), (134, 1), (131, 1), (431, 4), (129, 1), (934, 4), (127, 1), (938, 4), (133, 1), (132, 1), (1172, 47)] (by exact rfl) (by decide +kernel)
set_option maxRecDepth 20000 in
theorem gL_law_X8_cost : GoodIn wsL_law (wsV RL 185 RX8 yX8_cost wsX8_cost) := goodIn_app (goodIn_of _ (by decide +kernel)) ggL_law_X8_cost
set_option maxRecDepth 20000 in
theorem ggL_law_L_best : GoodIn wsL_law wsL_best := goodIn_ca (goodIn_g _ [(998, 1), (387, 1), (999, 3), (2, 1), (1002, 1), (32, 1), (393, 6), (20, 1), (818, 7), (17, 1), (14, 2), (825, 3), (31, 1), (828, 1), (102, 1), (829, 1), (223, 3), (100, 1), (99, 1), (830, 1), (278, 3), (103, 1), (113, 1), (831, 7), (105, 4), (256, 2), (305, 2), (303, 2), (258, 2), (838, 6), (109, 1), (844, 1), (408, 2), (845, 32), (104, 1), (110, 3), (877, 43), (1164, 8), (1248, 14), (1219, 3), (1268, 3)] (by exact rfl) (by decide +kernel)) (goodIn_sub (fun _ h => List.mem_append_right _ h) (by decide +kernel))
set_option maxRecDepth 20000 in
theorem gL_law_L_best : GoodIn wsL_law (va_wsS RL 186 yL_best wsL_best) := goodIn_app (goodIn_of _ (by decide +kernel)) ggL_law_L_best
set_option maxRecDepth 20000 in
theorem ggL_law_X8_best : GoodIn wsL_law wsX8_best := goodIn_g _ [(1006, 1), (156, 1), (928, 1), (419, 3), (5, 1), (422, 1), (315, 1), (188, 8), (930, 4), (187, 1), (130, 1), (135, 1), (134, 1), (131, 1), (431, 4), (129, 1), (934, 4), (127, 1), (938, 4), (133, 1), (132, 1), (1007, 4), (929, 1), (162, 1), (1011, 4), (157, 2), (1015, 4), (950, 4), (1019, 4), (128, 1), (1023, 4), (966, 4), (1172, 47)] (by exact rfl) (by decide +kernel)
set_option maxRecDepth 20000 in
theorem gL_law_X8_best : GoodIn wsL_law (wsV RL 189 RX8 yX8_best wsX8_best) := goodIn_app (goodIn_of _ (by decide +kernel)) ggL_law_X8_best
set_option maxRecDepth 20000 in
theorem ggL_law_L_changes : GoodIn wsL_law wsL_changes := goodIn_ca (goodIn_g _ [(1029, 1), (387, 1), (1030, 3), (2, 1), (1033, 1), (32, 1), (17, 1), (14, 2), (393, 6), (20, 1), (825, 3), (31, 1), (828, 1), (102, 1), (829, 1), (223, 3), (100, 1), (99, 1), (830, 1), (278, 3), (103, 1), (113, 1), (831, 7), (105, 4), (256, 2), (305, 2), (303, 2), (258, 2), (838, 6), (109, 1), (844, 1), (408, 2), (845, 28), (988, 4), (1164, 8), (1248, 14), (1219, 3), (1268, 3)] (by exact rfl) (by decide +kernel)) (goodIn_sub (fun _ h => List.mem_append_right _ h) (by decide +kernel))
set_option maxRecDepth 20000 in
theorem gL_law_L_changes : GoodIn wsL_law (va_wsS RL 190 yL_changes wsL_changes) := goodIn_app (goodIn_of _ (by decide +kernel)) ggL_law_L_changes
set_option maxRecDepth 20000 in
theorem ggL_law_X8_changes : GoodIn wsL_law wsX8_changes := goodIn_g _ [(1037, 1), (156, 1), (928, 1), (419, 3), (5, 1), (422, 1), (315, 1), (188, 8), (1038, 4), (187, 1), (130, 1), (132, 1), (135, 1), (131, 1), (431, 4), (129, 1), (1042, 11), (127, 1), (1172, 47)] (by exact rfl) (by decide +kernel)
set_option maxRecDepth 20000 in
theorem gL_law_X8_changes : GoodIn wsL_law (wsV RL 192 RX8 yX8_changes wsX8_changes) := goodIn_app (goodIn_of _ (by decide +kernel)) ggL_law_X8_changes
set_option maxRecDepth 20000 in
theorem ggL_law_L_mended : GoodIn wsL_law wsL_mended := goodIn_ca (goodIn_g _ [(1055, 1), (387, 1), (1056, 3), (2, 1), (1059, 1), (32, 1), (17, 1), (14, 2), (393, 6), (20, 1), (818, 3), (825, 3), (31, 1), (828, 1), (102, 1), (829, 1), (223, 3), (100, 1), (99, 1), (830, 1), (278, 3), (103, 1), (113, 1), (831, 7), (105, 4), (256, 2), (305, 2), (303, 2), (258, 2), (838, 6), (109, 1), (844, 1), (408, 2), (845, 32), (104, 1), (110, 3), (877, 43), (1164, 8), (1248, 14), (1219, 3), (1268, 3)] (by exact rfl) (by decide +kernel)) (goodIn_sub (fun _ h => List.mem_append_right _ h) (by decide +kernel))
set_option maxRecDepth 20000 in
theorem gL_law_L_mended : GoodIn wsL_law (va_wsS RL 193 yL_mended wsL_mended) := goodIn_app (goodIn_of _ (by decide +kernel)) ggL_law_L_mended
set_option maxRecDepth 20000 in
theorem ggL_law_X8_mended : GoodIn wsL_law wsX8_mended := goodIn_g _ [(1063, 1), (156, 1), (928, 1), (419, 3), (5, 1), (422, 1), (315, 1), (188, 8), (1038, 4), (187, 1), (130, 1), (132, 1), (135, 1), (131, 1), (431, 4), (129, 1), (1042, 11), (127, 1), (1064, 4), (929, 1), (162, 1), (1011, 4), (157, 2), (1068, 4), (1019, 4), (128, 1), (1072, 4), (966, 4), (1172, 47)] (by exact rfl) (by decide +kernel)
set_option maxRecDepth 20000 in
theorem gL_law_X8_mended : GoodIn wsL_law (wsV RL 195 RX8 yX8_mended wsX8_mended) := goodIn_app (goodIn_of _ (by decide +kernel)) ggL_law_X8_mended
set_option maxRecDepth 20000 in
theorem ggL_law_L_apart : GoodIn wsL_law wsL_apart := goodIn_ca (goodIn_ca (goodIn_g _ [(1078, 1), (387, 1), (171, 1), (1079, 3), (2, 1), (1082, 1), (28, 1), (17, 1), (393, 6), (20, 1), (818, 3), (555, 4), (178, 2), (559, 3), (19, 1), (562, 1), (43, 1), (461, 2), (563, 1), (303, 4), (717, 3), (27, 1), (720, 1), (76, 3), (568, 3), (75, 1), (571, 2), (94, 1), (573, 1), (95, 1), (93, 1), (574, 3), (92, 1), (577, 4), (256, 4), (585, 4), (84, 1), (79, 3), (589, 8), (82, 2), (597, 4), (408, 2), (601, 11), (1083, 4), (620, 8), (1087, 8), (1164, 8), (1219, 3), (1268, 3), (1235, 13), (1271, 4)] (by exact rfl) (by decide +kernel)) (goodIn_sub (fun _ h => List.mem_append_right _ h) (by decide +kernel))) (goodIn_sub (fun _ h => List.mem_append_left _ (List.mem_append_right _ h)) (by decide +kernel))
set_option maxRecDepth 20000 in
theorem gL_law_L_apart : GoodIn wsL_law (va_wsS RL 196 yL_apart wsL_apart) := goodIn_app (goodIn_of _ (by decide +kernel)) ggL_law_L_apart
set_option maxRecDepth 20000 in
theorem ggL_law_X8_apart : GoodIn wsL_law wsX8_apart := goodIn_g _ [(1098, 1), (674, 1), (152, 2), (419, 3), (5, 1), (422, 1), (315, 1), (188, 3), (666, 4), (130, 1), (132, 3), (675, 4), (149, 3), (679, 4), (131, 1), (135, 1), (683, 11), (191, 5), (694, 4), (129, 1), (1172, 47)] (by exact rfl) (by decide +kernel)
set_option maxRecDepth 20000 in
theorem gL_law_X8_apart : GoodIn wsL_law (wsV RL 198 RX8 yX8_apart wsX8_apart) := goodIn_app (goodIn_of _ (by decide +kernel)) ggL_law_X8_apart
set_option maxRecDepth 20000 in
theorem ggL_law_L_ruled : GoodIn wsL_law wsL_ruled := goodIn_ca (goodIn_ca (goodIn_g _ [(1101, 1), (387, 1), (170, 1), (1102, 3), (2, 1), (1105, 1), (15, 1), (14, 1), (818, 3), (397, 2), (732, 3), (176, 2), (180, 3), (215, 3), (735, 3), (1106, 4), (1164, 8)] (by exact rfl) (by decide +kernel)) (goodIn_sub (fun _ h => List.mem_append_right _ h) (by decide +kernel))) (goodIn_sub (fun _ h => List.mem_append_left _ (List.mem_append_left _ (List.mem_append_right _ h))) (by decide +kernel))
set_option maxRecDepth 20000 in
theorem gL_law_L_ruled : GoodIn wsL_law (va_wsS RL 199 yL_ruled wsL_ruled) := goodIn_app (goodIn_of _ (by decide +kernel)) ggL_law_L_ruled
set_option maxRecDepth 20000 in
theorem ggL_law_X8_ruled : GoodIn wsL_law wsX8_ruled := goodIn_g _ [(1113, 1), (187, 1), (127, 1), (756, 2), (5, 1), (758, 1), (188, 8), (1172, 47)] (by exact rfl) (by decide +kernel)
set_option maxRecDepth 20000 in
theorem gL_law_X8_ruled : GoodIn wsL_law (wsV RL 202 RX8 yX8_ruled wsX8_ruled) := goodIn_app (goodIn_of _ (by decide +kernel)) ggL_law_X8_ruled
set_option maxRecDepth 20000 in
theorem ggL_law_L_learn : GoodIn wsL_law wsL_learn := goodIn_ca (goodIn_ca (goodIn_g _ [(1116, 1), (170, 2), (1117, 3), (2, 1), (1120, 1), (176, 4), (36, 1), (1121, 1), (14, 2), (1122, 3), (35, 1), (1125, 1), (122, 1), (117, 1), (1126, 1), (278, 3), (118, 2), (1164, 8), (1262, 6)] (by exact rfl) (by decide +kernel)) (goodIn_sub (fun _ h => List.mem_append_left _ (List.mem_append_left _ (List.mem_append_right _ h))) (by decide +kernel))) (goodIn_sub (fun _ h => List.mem_append_left _ (List.mem_append_right _ h)) (by decide +kernel))
set_option maxRecDepth 20000 in
theorem gL_law_L_learn : GoodIn wsL_law (va_wsS RL 203 yL_learn wsL_learn) := goodIn_app (goodIn_of _ (by decide +kernel)) ggL_law_L_learn
set_option maxRecDepth 20000 in
theorem ggL_law_X8_learn : GoodIn wsL_law wsX8_learn := goodIn_g _ [(1130, 2), (187, 1), (163, 1), (127, 1), (164, 2), (188, 2), (5, 1), (190, 6), (1172, 47)] (by exact rfl) (by decide +kernel)
set_option maxRecDepth 20000 in
theorem gL_law_X8_learn : GoodIn wsL_law (wsV RL 205 RX8 yX8_learn wsX8_learn) := goodIn_app (goodIn_of _ (by decide +kernel)) ggL_law_X8_learn
set_option maxRecDepth 20000 in
theorem ggL_law_X7_guess : GoodIn wsL_law wsX7_guess := goodIn_g _ [(1135, 1), (36, 1), (14, 2), (1136, 3), (35, 1), (1139, 1), (122, 1), (120, 1), (1140, 2), (224, 1), (1142, 1), (121, 1), (1143, 1), (223, 1), (225, 1), (1144, 4), (118, 1), (117, 1), (1148, 4), (119, 1), (1152, 4), (1164, 8), (1262, 6)] (by exact rfl) (by decide +kernel)
set_option maxRecDepth 20000 in
theorem gL_law_X7_guess : GoodIn wsL_law (wsV RL 206 RX7 yX7_guess wsX7_guess) := goodIn_app (goodIn_of _ (by decide +kernel)) ggL_law_X7_guess
set_option maxRecDepth 20000 in
theorem ggL_law_X8_guess : GoodIn wsL_law wsX8_guess := goodIn_g _ [(1159, 1), (195, 1), (1131, 1), (165, 1), (1160, 3), (5, 1), (1163, 1), (187, 1), (164, 1), (163, 1), (127, 1), (1046, 3), (1172, 47)] (by exact rfl) (by decide +kernel)
set_option maxRecDepth 20000 in
theorem gL_law_X8_guess : GoodIn wsL_law (wsV RL 209 RX8 yX8_guess wsX8_guess) := goodIn_app (goodIn_of _ (by decide +kernel)) ggL_law_X8_guess
