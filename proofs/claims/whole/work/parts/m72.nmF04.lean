set_option maxRecDepth 20000 in
theorem gL_law_L_apart : GoodIn wsL_law (va_wsS RL 196 yL_apart wsL_apart) := goodIn_app (goodIn_of _ (by decide +kernel)) ggL_law_L_apart
set_option maxRecDepth 20000 in
theorem ggL_law_X8_apart : GoodIn wsL_law wsX8_apart := goodIn_g _ [(1098, 1), (674, 1), (152, 2), (419, 3), (5, 1), (422, 1), (315, 1), (188, 3), (666, 4), (130, 1), (132, 3), (675, 4), (149, 3), (679, 4), (131, 1), (135, 1), (683, 11), (191, 5), (694, 4), (129, 1), (1172, 47)] (by exact rfl) (by decide +kernel)
set_option maxRecDepth 20000 in
theorem gL_law_X8_apart : GoodIn wsL_law (wsV RL 198 RX8 yX8_apart wsX8_apart) := goodIn_app (goodIn_of _ (by decide +kernel)) ggL_law_X8_apart
set_option maxRecDepth 20000 in
theorem ggL_law_L_ruled : GoodIn wsL_law wsL_ruled := goodIn_ca (goodIn_ca (goodIn_g _ [(1101, 1), (387, 1), (170, 1), (1102, 3), (2, 1), (1105, 1), (15, 1), (14, 1), (818, 3), (397, 2), (732, 3), (176, 2), (180, 3), (215, 3), (735, 3), (1106, 4), (1164, 8)] (by exact rfl) (by decide +kernel)) (goodIn_sub (fun _ h => List.mem_append_right _ h) (by decide +kernel))) (goodIn_sub (fun _ h => List.mem_append_left _ (List.mem_append_left _ (List.mem_append_right _ h))) (by decide +kernel))
set_option maxRecDepth 20000 in
theorem gL_law_L_ruled : GoodIn wsL_law (va_wsS RL 199 yL_ruled wsL_ruled) := goodIn_app (goodIn_of _ (by decide +kernel)) ggL_law_L_ruled
set_option maxRecDepth 20000 in
theorem ggL_law_X8_ruled : GoodIn wsL_law wsX8_ruled := goodIn_g _ [(1113, 1), (187, 1), (127, 1), (756, 2), (5, 1), (758, 1), (188, 8), (1172, 47)] (by exact rfl) (by decide +kernel)
set_option maxRecDepth 20000 in
theorem gL_law_X8_ruled : GoodIn wsL_law (wsV RL 202 RX8 yX8_ruled wsX8_ruled) := goodIn_app (goodIn_of _ (by decide +kernel)) ggL_law_X8_ruled
set_option maxRecDepth 20000 in
theorem ggL_law_L_learn : GoodIn wsL_law wsL_learn := goodIn_ca (goodIn_ca (goodIn_g _ [(1116, 1), (170, 2), (1117, 3), (2, 1), (1120, 1), (176, 4), (36, 1), (1121, 1), (14, 2), (1122, 3), (35, 1), (1125, 1), (122, 1), (117, 1), (1126, 1), (278, 3), (118, 2), (1164, 8), (1262, 6)] (by exact rfl) (by decide +kernel)) (goodIn_sub (fun _ h => List.mem_append_left _ (List.mem_append_left _ (List.mem_append_right _ h))) (by decide +kernel))) (goodIn_sub (fun _ h => List.mem_append_left _ (List.mem_append_right _ h)) (by decide +kernel))
set_option maxRecDepth 20000 in
theorem gL_law_L_learn : GoodIn wsL_law (va_wsS RL 203 yL_learn wsL_learn) := goodIn_app (goodIn_of _ (by decide +kernel)) ggL_law_L_learn
set_option maxRecDepth 20000 in
theorem ggL_law_X8_learn : GoodIn wsL_law wsX8_learn := goodIn_g _ [(1130, 2), (187, 1), (163, 1), (127, 1), (164, 2), (188, 2), (5, 1), (190, 6), (1172, 47)] (by exact rfl) (by decide +kernel)
set_option maxRecDepth 20000 in
theorem gL_law_X8_learn : GoodIn wsL_law (wsV RL 205 RX8 yX8_learn wsX8_learn) := goodIn_app (goodIn_of _ (by decide +kernel)) ggL_law_X8_learn
set_option maxRecDepth 20000 in
theorem ggL_law_X7_guess : GoodIn wsL_law wsX7_guess := goodIn_g _ [(1135, 1), (36, 1), (14, 2), (1136, 3), (35, 1), (1139, 1), (122, 1), (120, 1), (1140, 2), (224, 1), (1142, 1), (121, 1), (1143, 1), (223, 1), (225, 1), (1144, 4), (118, 1), (117, 1), (1148, 4), (119, 1), (1152, 4), (1164, 8), (1262, 6)] (by exact rfl) (by decide +kernel)
set_option maxRecDepth 20000 in
theorem gL_law_X7_guess : GoodIn wsL_law (wsV RL 206 RX7 yX7_guess wsX7_guess) := goodIn_app (goodIn_of _ (by decide +kernel)) ggL_law_X7_guess
set_option maxRecDepth 20000 in
theorem ggL_law_X8_guess : GoodIn wsL_law wsX8_guess := goodIn_g _ [(1159, 1), (195, 1), (1131, 1), (165, 1), (1160, 3), (5, 1), (1163, 1), (187, 1), (164, 1), (163, 1), (127, 1), (1046, 3), (1172, 47)] (by exact rfl) (by decide +kernel)
set_option maxRecDepth 20000 in
theorem gL_law_X8_guess : GoodIn wsL_law (wsV RL 209 RX8 yX8_guess wsX8_guess) := goodIn_app (goodIn_of _ (by decide +kernel)) ggL_law_X8_guess
