theorem dL_arc_3 : decode cL_arc 3 = .ok (.aload_n 0, 1) := by decide +kernel
theorem dL_arc_4 : decode cL_arc 4 = .ok (.iload_n 1, 1) := by decide +kernel
theorem dL_arc_5 : decode cL_arc 5 = .ok (.iload_n 2, 1) := by decide +kernel
theorem dL_arc_6 : decode cL_arc 6 = .ok (.iload_n 3, 1) := by decide +kernel
theorem dL_arc_7 : decode cL_arc 7 = .ok (.invokevirtual 68, 3) := by decide +kernel
theorem dL_arc_10 : decode cL_arc 10 = .ok (.i2l, 1) := by decide +kernel
theorem dL_arc_11 : decode cL_arc 11 = .ok (.lastore, 1) := by decide +kernel
theorem dL_arc_12 : decode cL_arc 12 = .ok (.goto 11, 3) := by decide +kernel
theorem dL_arc_15 : decode cL_arc 15 = .ok (.astore 5, 2) := by decide +kernel
theorem dL_arc_17 : decode cL_arc 17 = .ok (.iconst 1, 1) := by decide +kernel
theorem dL_arc_18 : decode cL_arc 18 = .ok (.ireturn, 1) := by decide +kernel
theorem dL_arc_19 : decode cL_arc 19 = .ok (.astore 5, 2) := by decide +kernel
theorem dL_arc_21 : decode cL_arc 21 = .ok (.iconst 2, 1) := by decide +kernel
theorem dL_arc_22 : decode cL_arc 22 = .ok (.ireturn, 1) := by decide +kernel
theorem dL_arc_23 : decode cL_arc 23 = .ok (.iconst 0, 1) := by decide +kernel
theorem dL_arc_24 : decode cL_arc 24 = .ok (.ireturn, 1) := by decide +kernel
set_option maxRecDepth 20000 in
theorem ggL_isPlain_X7_isPlain : GoodIn wsL_isPlain wsX7_isPlain := goodIn_ca (goodIn_g _ [(6, 5), (5, 1), (11, 31)] (by exact rfl) (by decide +kernel)) (goodIn_sub (fun _ h => List.mem_cons_of_mem _ (List.mem_append_right _ h)) (by decide +kernel))
set_option maxRecDepth 20000 in
theorem gL_isPlain_X7_isPlain : GoodIn wsL_isPlain (wsV RL 71 RX7 yX7_isPlain wsX7_isPlain) := goodIn_app (goodIn_of _ (by decide +kernel)) ggL_isPlain_X7_isPlain
theorem dL_isPlain_0 : decode cL_isPlain 0 = .ok (.aload_n 2, 1) := by decide +kernel
theorem dL_isPlain_1 : decode cL_isPlain 1 = .ok (.iconst 0, 1) := by decide +kernel
theorem dL_isPlain_2 : decode cL_isPlain 2 = .ok (.aload_n 0, 1) := by decide +kernel
theorem dL_isPlain_3 : decode cL_isPlain 3 = .ok (.iload_n 1, 1) := by decide +kernel
theorem dL_isPlain_4 : decode cL_isPlain 4 = .ok (.invokevirtual 71, 3) := by decide +kernel
theorem dL_isPlain_7 : decode cL_isPlain 7 = .ok (.ifCond .eq 7, 3) := by decide +kernel
theorem dL_isPlain_10 : decode cL_isPlain 10 = .ok (.lconst 1, 1) := by decide +kernel
theorem dL_isPlain_11 : decode cL_isPlain 11 = .ok (.goto 4, 3) := by decide +kernel
theorem dL_isPlain_14 : decode cL_isPlain 14 = .ok (.lconst 0, 1) := by decide +kernel
theorem dL_isPlain_15 : decode cL_isPlain 15 = .ok (.lastore, 1) := by decide +kernel
theorem dL_isPlain_16 : decode cL_isPlain 16 = .ok (.goto 6, 3) := by decide +kernel
theorem dL_isPlain_19 : decode cL_isPlain 19 = .ok (.astore_n 3, 1) := by decide +kernel
theorem dL_isPlain_20 : decode cL_isPlain 20 = .ok (.iconst 1, 1) := by decide +kernel
theorem dL_isPlain_21 : decode cL_isPlain 21 = .ok (.ireturn, 1) := by decide +kernel
theorem dL_isPlain_22 : decode cL_isPlain 22 = .ok (.iconst 0, 1) := by decide +kernel
theorem dL_isPlain_23 : decode cL_isPlain 23 = .ok (.ireturn, 1) := by decide +kernel
set_option maxRecDepth 20000 in
theorem ggL_answer_X7_answer : GoodIn wsL_answer wsX7_answer := goodIn_ca (goodIn_ca (goodIn_g _ [(7, 7), (6, 1), (14, 168)] (by exact rfl) (by decide +kernel)) (goodIn_sub (fun _ h => List.mem_cons_of_mem _ (List.mem_append_left _ (List.mem_append_right _ h))) (by decide +kernel))) (goodIn_sub (fun _ h => List.mem_cons_of_mem _ (List.mem_append_right _ h)) (by decide +kernel))
set_option maxRecDepth 20000 in
theorem gL_answer_X7_answer : GoodIn wsL_answer (wsV RL 75 RX7 yX7_answer wsX7_answer) := goodIn_app (goodIn_of _ (by decide +kernel)) ggL_answer_X7_answer
theorem dL_answer_0 : decode cL_answer 0 = .ok (.aload 5, 2) := by decide +kernel
theorem dL_answer_2 : decode cL_answer 2 = .ok (.iconst 0, 1) := by decide +kernel
theorem dL_answer_3 : decode cL_answer 3 = .ok (.aload_n 0, 1) := by decide +kernel
theorem dL_answer_4 : decode cL_answer 4 = .ok (.iload_n 1, 1) := by decide +kernel
theorem dL_answer_5 : decode cL_answer 5 = .ok (.iload_n 2, 1) := by decide +kernel
theorem dL_answer_6 : decode cL_answer 6 = .ok (.iload_n 3, 1) := by decide +kernel
theorem dL_answer_7 : decode cL_answer 7 = .ok (.iload 4, 2) := by decide +kernel
theorem dL_answer_9 : decode cL_answer 9 = .ok (.invokevirtual 75, 3) := by decide +kernel
theorem dL_answer_12 : decode cL_answer 12 = .ok (.i2l, 1) := by decide +kernel
theorem dL_answer_13 : decode cL_answer 13 = .ok (.lastore, 1) := by decide +kernel
theorem dL_answer_14 : decode cL_answer 14 = .ok (.goto 11, 3) := by decide +kernel
theorem dL_answer_17 : decode cL_answer 17 = .ok (.astore 6, 2) := by decide +kernel
theorem dL_answer_19 : decode cL_answer 19 = .ok (.iconst 1, 1) := by decide +kernel
theorem dL_answer_20 : decode cL_answer 20 = .ok (.ireturn, 1) := by decide +kernel
theorem dL_answer_21 : decode cL_answer 21 = .ok (.astore 6, 2) := by decide +kernel
theorem dL_answer_23 : decode cL_answer 23 = .ok (.iconst 2, 1) := by decide +kernel
theorem dL_answer_24 : decode cL_answer 24 = .ok (.ireturn, 1) := by decide +kernel
theorem dL_answer_25 : decode cL_answer 25 = .ok (.iconst 0, 1) := by decide +kernel
theorem dL_answer_26 : decode cL_answer 26 = .ok (.ireturn, 1) := by decide +kernel
set_option maxRecDepth 20000 in
theorem ggL_answers_X7_answers : GoodIn wsL_answers wsX7_answers := goodIn_ca (goodIn_g _ [(6, 5), (5, 1), (11, 161)] (by exact rfl) (by decide +kernel)) (goodIn_sub (fun _ h => List.mem_cons_of_mem _ (List.mem_append_right _ h)) (by decide +kernel))
set_option maxRecDepth 20000 in
theorem gL_answers_X7_answers : GoodIn wsL_answers (wsV RL 79 RX7 yX7_answers wsX7_answers) := goodIn_app (goodIn_of _ (by decide +kernel)) ggL_answers_X7_answers
theorem dL_answers_0 : decode cL_answers 0 = .ok (.aload_n 3, 1) := by decide +kernel
theorem dL_answers_1 : decode cL_answers 1 = .ok (.iconst 0, 1) := by decide +kernel
theorem dL_answers_2 : decode cL_answers 2 = .ok (.aload_n 0, 1) := by decide +kernel
theorem dL_answers_3 : decode cL_answers 3 = .ok (.iload_n 1, 1) := by decide +kernel
theorem dL_answers_4 : decode cL_answers 4 = .ok (.iload_n 2, 1) := by decide +kernel
theorem dL_answers_5 : decode cL_answers 5 = .ok (.invokevirtual 79, 3) := by decide +kernel
theorem dL_answers_8 : decode cL_answers 8 = .ok (.i2l, 1) := by decide +kernel
theorem dL_answers_9 : decode cL_answers 9 = .ok (.lastore, 1) := by decide +kernel
theorem dL_answers_10 : decode cL_answers 10 = .ok (.goto 7, 3) := by decide +kernel
theorem dL_answers_13 : decode cL_answers 13 = .ok (.astore 4, 2) := by decide +kernel
theorem dL_answers_15 : decode cL_answers 15 = .ok (.iconst 1, 1) := by decide +kernel
theorem dL_answers_16 : decode cL_answers 16 = .ok (.ireturn, 1) := by decide +kernel
theorem dL_answers_17 : decode cL_answers 17 = .ok (.iconst 0, 1) := by decide +kernel
theorem dL_answers_18 : decode cL_answers 18 = .ok (.ireturn, 1) := by decide +kernel
set_option maxRecDepth 20000 in
theorem ggL_cost_X7_cost : GoodIn wsL_cost wsX7_cost := goodIn_ca (goodIn_g _ [(6, 5), (5, 1), (11, 118)] (by exact rfl) (by decide +kernel)) (goodIn_sub (fun _ h => List.mem_cons_of_mem _ (List.mem_append_right _ h)) (by decide +kernel))
set_option maxRecDepth 20000 in
theorem gL_cost_X7_cost : GoodIn wsL_cost (wsV RL 82 RX7 yX7_cost wsX7_cost) := goodIn_app (goodIn_of _ (by decide +kernel)) ggL_cost_X7_cost
theorem dL_cost_0 : decode cL_cost 0 = .ok (.aload_n 3, 1) := by decide +kernel
theorem dL_cost_1 : decode cL_cost 1 = .ok (.iconst 0, 1) := by decide +kernel
theorem dL_cost_2 : decode cL_cost 2 = .ok (.aload_n 0, 1) := by decide +kernel
theorem dL_cost_3 : decode cL_cost 3 = .ok (.iload_n 1, 1) := by decide +kernel
theorem dL_cost_4 : decode cL_cost 4 = .ok (.iload_n 2, 1) := by decide +kernel
theorem dL_cost_5 : decode cL_cost 5 = .ok (.invokevirtual 82, 3) := by decide +kernel
theorem dL_cost_8 : decode cL_cost 8 = .ok (.i2l, 1) := by decide +kernel
theorem dL_cost_9 : decode cL_cost 9 = .ok (.lastore, 1) := by decide +kernel
theorem dL_cost_10 : decode cL_cost 10 = .ok (.goto 7, 3) := by decide +kernel
theorem dL_cost_13 : decode cL_cost 13 = .ok (.astore 4, 2) := by decide +kernel
theorem dL_cost_15 : decode cL_cost 15 = .ok (.iconst 1, 1) := by decide +kernel
theorem dL_cost_16 : decode cL_cost 16 = .ok (.ireturn, 1) := by decide +kernel
theorem dL_cost_17 : decode cL_cost 17 = .ok (.iconst 0, 1) := by decide +kernel
theorem dL_cost_18 : decode cL_cost 18 = .ok (.ireturn, 1) := by decide +kernel
set_option maxRecDepth 20000 in
theorem ggL_best_X7_best : GoodIn wsL_best wsX7_best := goodIn_ca (goodIn_g _ [(6, 5), (5, 1), (11, 168)] (by exact rfl) (by decide +kernel)) (goodIn_sub (fun _ h => List.mem_cons_of_mem _ (List.mem_append_right _ h)) (by decide +kernel))
set_option maxRecDepth 20000 in
theorem gL_best_X7_best : GoodIn wsL_best (wsV RL 85 RX7 yX7_best wsX7_best) := goodIn_app (goodIn_of _ (by decide +kernel)) ggL_best_X7_best
theorem dL_best_0 : decode cL_best 0 = .ok (.aload 4, 2) := by decide +kernel
theorem dL_best_2 : decode cL_best 2 = .ok (.iconst 0, 1) := by decide +kernel
theorem dL_best_3 : decode cL_best 3 = .ok (.aload_n 0, 1) := by decide +kernel
theorem dL_best_4 : decode cL_best 4 = .ok (.iload_n 1, 1) := by decide +kernel
theorem dL_best_5 : decode cL_best 5 = .ok (.iload_n 2, 1) := by decide +kernel
theorem dL_best_6 : decode cL_best 6 = .ok (.iload_n 3, 1) := by decide +kernel
theorem dL_best_7 : decode cL_best 7 = .ok (.invokevirtual 85, 3) := by decide +kernel
theorem dL_best_10 : decode cL_best 10 = .ok (.i2l, 1) := by decide +kernel
theorem dL_best_11 : decode cL_best 11 = .ok (.lastore, 1) := by decide +kernel
theorem dL_best_12 : decode cL_best 12 = .ok (.goto 7, 3) := by decide +kernel
theorem dL_best_15 : decode cL_best 15 = .ok (.astore 5, 2) := by decide +kernel
theorem dL_best_17 : decode cL_best 17 = .ok (.iconst 1, 1) := by decide +kernel
theorem dL_best_18 : decode cL_best 18 = .ok (.ireturn, 1) := by decide +kernel
theorem dL_best_19 : decode cL_best 19 = .ok (.iconst 0, 1) := by decide +kernel
theorem dL_best_20 : decode cL_best 20 = .ok (.ireturn, 1) := by decide +kernel
set_option maxRecDepth 20000 in
theorem ggL_changes_X7_changes : GoodIn wsL_changes wsX7_changes := goodIn_ca (goodIn_g _ [(6, 8), (5, 1), (14, 111)] (by exact rfl) (by decide +kernel)) (goodIn_sub (fun _ h => List.mem_cons_of_mem _ (List.mem_append_right _ h)) (by decide +kernel))
set_option maxRecDepth 20000 in
theorem gL_changes_X7_changes : GoodIn wsL_changes (wsV RL 89 RX7 yX7_changes wsX7_changes) := goodIn_app (goodIn_of _ (by decide +kernel)) ggL_changes_X7_changes
theorem dL_changes_0 : decode cL_changes 0 = .ok (.aload_n 2, 1) := by decide +kernel
theorem dL_changes_1 : decode cL_changes 1 = .ok (.iconst 0, 1) := by decide +kernel
theorem dL_changes_2 : decode cL_changes 2 = .ok (.aload_n 0, 1) := by decide +kernel
theorem dL_changes_3 : decode cL_changes 3 = .ok (.iload_n 1, 1) := by decide +kernel
theorem dL_changes_4 : decode cL_changes 4 = .ok (.invokevirtual 89, 3) := by decide +kernel
theorem dL_changes_7 : decode cL_changes 7 = .ok (.i2l, 1) := by decide +kernel
theorem dL_changes_8 : decode cL_changes 8 = .ok (.lastore, 1) := by decide +kernel
theorem dL_changes_9 : decode cL_changes 9 = .ok (.goto 6, 3) := by decide +kernel
theorem dL_changes_12 : decode cL_changes 12 = .ok (.astore_n 3, 1) := by decide +kernel
theorem dL_changes_13 : decode cL_changes 13 = .ok (.iconst 1, 1) := by decide +kernel
theorem dL_changes_14 : decode cL_changes 14 = .ok (.ireturn, 1) := by decide +kernel
theorem dL_changes_15 : decode cL_changes 15 = .ok (.iconst 0, 1) := by decide +kernel
theorem dL_changes_16 : decode cL_changes 16 = .ok (.ireturn, 1) := by decide +kernel
set_option maxRecDepth 20000 in
theorem ggL_mended_X7_mended : GoodIn wsL_mended wsX7_mended := goodIn_ca (goodIn_g _ [(6, 8), (5, 1), (14, 161)] (by exact rfl) (by decide +kernel)) (goodIn_sub (fun _ h => List.mem_cons_of_mem _ (List.mem_append_right _ h)) (by decide +kernel))
set_option maxRecDepth 20000 in
theorem gL_mended_X7_mended : GoodIn wsL_mended (wsV RL 92 RX7 yX7_mended wsX7_mended) := goodIn_app (goodIn_of _ (by decide +kernel)) ggL_mended_X7_mended
theorem dL_mended_0 : decode cL_mended 0 = .ok (.aload_n 3, 1) := by decide +kernel
theorem dL_mended_1 : decode cL_mended 1 = .ok (.iconst 0, 1) := by decide +kernel
theorem dL_mended_2 : decode cL_mended 2 = .ok (.aload_n 0, 1) := by decide +kernel
theorem dL_mended_3 : decode cL_mended 3 = .ok (.iload_n 1, 1) := by decide +kernel
theorem dL_mended_4 : decode cL_mended 4 = .ok (.iload_n 2, 1) := by decide +kernel
theorem dL_mended_5 : decode cL_mended 5 = .ok (.invokevirtual 92, 3) := by decide +kernel
theorem dL_mended_8 : decode cL_mended 8 = .ok (.i2l, 1) := by decide +kernel
theorem dL_mended_9 : decode cL_mended 9 = .ok (.lastore, 1) := by decide +kernel
theorem dL_mended_10 : decode cL_mended 10 = .ok (.goto 7, 3) := by decide +kernel
theorem dL_mended_13 : decode cL_mended 13 = .ok (.astore 4, 2) := by decide +kernel
theorem dL_mended_15 : decode cL_mended 15 = .ok (.iconst 1, 1) := by decide +kernel
theorem dL_mended_16 : decode cL_mended 16 = .ok (.ireturn, 1) := by decide +kernel
theorem dL_mended_17 : decode cL_mended 17 = .ok (.iconst 0, 1) := by decide +kernel
theorem dL_mended_18 : decode cL_mended 18 = .ok (.ireturn, 1) := by decide +kernel
set_option maxRecDepth 20000 in
theorem ggL_apart_X7_apart : GoodIn wsL_apart wsX7_apart := goodIn_ca (goodIn_ca (goodIn_g _ [(7, 6), (6, 1), (13, 142)] (by exact rfl) (by decide +kernel)) (goodIn_sub (fun _ h => List.mem_cons_of_mem _ (List.mem_append_left _ (List.mem_append_right _ h))) (by decide +kernel))) (goodIn_sub (fun _ h => List.mem_cons_of_mem _ (List.mem_append_right _ h)) (by decide +kernel))
set_option maxRecDepth 20000 in
theorem gL_apart_X7_apart : GoodIn wsL_apart (wsV RL 95 RX7 yX7_apart wsX7_apart) := goodIn_app (goodIn_of _ (by decide +kernel)) ggL_apart_X7_apart
theorem dL_apart_0 : decode cL_apart 0 = .ok (.aload 4, 2) := by decide +kernel
theorem dL_apart_2 : decode cL_apart 2 = .ok (.iconst 0, 1) := by decide +kernel
theorem dL_apart_3 : decode cL_apart 3 = .ok (.aload_n 0, 1) := by decide +kernel
theorem dL_apart_4 : decode cL_apart 4 = .ok (.iload_n 1, 1) := by decide +kernel
theorem dL_apart_5 : decode cL_apart 5 = .ok (.iload_n 2, 1) := by decide +kernel
theorem dL_apart_6 : decode cL_apart 6 = .ok (.iload_n 3, 1) := by decide +kernel
theorem dL_apart_7 : decode cL_apart 7 = .ok (.invokevirtual 95, 3) := by decide +kernel
theorem dL_apart_10 : decode cL_apart 10 = .ok (.i2l, 1) := by decide +kernel
theorem dL_apart_11 : decode cL_apart 11 = .ok (.lastore, 1) := by decide +kernel
theorem dL_apart_12 : decode cL_apart 12 = .ok (.goto 11, 3) := by decide +kernel
theorem dL_apart_15 : decode cL_apart 15 = .ok (.astore 5, 2) := by decide +kernel
theorem dL_apart_17 : decode cL_apart 17 = .ok (.iconst 1, 1) := by decide +kernel
theorem dL_apart_18 : decode cL_apart 18 = .ok (.ireturn, 1) := by decide +kernel
theorem dL_apart_19 : decode cL_apart 19 = .ok (.astore 5, 2) := by decide +kernel
theorem dL_apart_21 : decode cL_apart 21 = .ok (.iconst 2, 1) := by decide +kernel
theorem dL_apart_22 : decode cL_apart 22 = .ok (.ireturn, 1) := by decide +kernel
theorem dL_apart_23 : decode cL_apart 23 = .ok (.iconst 0, 1) := by decide +kernel
theorem dL_apart_24 : decode cL_apart 24 = .ok (.ireturn, 1) := by decide +kernel
set_option maxRecDepth 20000 in
theorem ggL_ruled_X7_ruled : GoodIn wsL_ruled wsX7_ruled := goodIn_ca (goodIn_ca (goodIn_g _ [(7, 5), (6, 1), (12, 29)] (by exact rfl) (by decide +kernel)) (goodIn_sub (fun _ h => List.mem_cons_of_mem _ (List.mem_append_left _ (List.mem_append_right _ h))) (by decide +kernel))) (goodIn_sub (fun _ h => List.mem_cons_of_mem _ (List.mem_append_right _ h)) (by decide +kernel))
set_option maxRecDepth 20000 in
theorem gL_ruled_X7_ruled : GoodIn wsL_ruled (wsV RL 98 RX7 yX7_ruled wsX7_ruled) := goodIn_app (goodIn_of _ (by decide +kernel)) ggL_ruled_X7_ruled
theorem dL_ruled_0 : decode cL_ruled 0 = .ok (.aload 6, 2) := by decide +kernel
theorem dL_ruled_2 : decode cL_ruled 2 = .ok (.iconst 0, 1) := by decide +kernel
theorem dL_ruled_3 : decode cL_ruled 3 = .ok (.aload_n 0, 1) := by decide +kernel
theorem dL_ruled_4 : decode cL_ruled 4 = .ok (.iload_n 1, 1) := by decide +kernel
theorem dL_ruled_5 : decode cL_ruled 5 = .ok (.iload_n 2, 1) := by decide +kernel
theorem dL_ruled_6 : decode cL_ruled 6 = .ok (.iload_n 3, 1) := by decide +kernel
theorem dL_ruled_7 : decode cL_ruled 7 = .ok (.iload 4, 2) := by decide +kernel
theorem dL_ruled_9 : decode cL_ruled 9 = .ok (.iload 5, 2) := by decide +kernel
theorem dL_ruled_11 : decode cL_ruled 11 = .ok (.invokevirtual 98, 3) := by decide +kernel
theorem dL_ruled_14 : decode cL_ruled 14 = .ok (.i2l, 1) := by decide +kernel
theorem dL_ruled_15 : decode cL_ruled 15 = .ok (.lastore, 1) := by decide +kernel
theorem dL_ruled_16 : decode cL_ruled 16 = .ok (.goto 11, 3) := by decide +kernel
theorem dL_ruled_19 : decode cL_ruled 19 = .ok (.astore 7, 2) := by decide +kernel
theorem dL_ruled_21 : decode cL_ruled 21 = .ok (.iconst 1, 1) := by decide +kernel
theorem dL_ruled_22 : decode cL_ruled 22 = .ok (.ireturn, 1) := by decide +kernel
theorem dL_ruled_23 : decode cL_ruled 23 = .ok (.astore 7, 2) := by decide +kernel
theorem dL_ruled_25 : decode cL_ruled 25 = .ok (.iconst 2, 1) := by decide +kernel
theorem dL_ruled_26 : decode cL_ruled 26 = .ok (.ireturn, 1) := by decide +kernel
theorem dL_ruled_27 : decode cL_ruled 27 = .ok (.iconst 0, 1) := by decide +kernel
theorem dL_ruled_28 : decode cL_ruled 28 = .ok (.ireturn, 1) := by decide +kernel
set_option maxRecDepth 20000 in
theorem ggL_learn_X7_learn : GoodIn wsL_learn wsX7_learn := goodIn_ca (goodIn_ca (goodIn_g _ [(7, 36)] (by exact rfl) (by decide +kernel)) (goodIn_sub (fun _ h => List.mem_cons_of_mem _ (List.mem_append_left _ (List.mem_append_right _ h))) (by decide +kernel))) (goodIn_sub (fun _ h => List.mem_cons_of_mem _ (List.mem_append_right _ h)) (by decide +kernel))
set_option maxRecDepth 20000 in
theorem gL_learn_X7_learn : GoodIn wsL_learn (wsV RL 102 RX7 yX7_learn wsX7_learn) := goodIn_app (goodIn_of _ (by decide +kernel)) ggL_learn_X7_learn
theorem dL_learn_0 : decode cL_learn 0 = .ok (.aload_n 2, 1) := by decide +kernel
theorem dL_learn_1 : decode cL_learn 1 = .ok (.iconst 0, 1) := by decide +kernel
theorem dL_learn_2 : decode cL_learn 2 = .ok (.aload_n 0, 1) := by decide +kernel
theorem dL_learn_3 : decode cL_learn 3 = .ok (.iload_n 1, 1) := by decide +kernel
theorem dL_learn_4 : decode cL_learn 4 = .ok (.invokevirtual 102, 3) := by decide +kernel
theorem dL_learn_7 : decode cL_learn 7 = .ok (.i2l, 1) := by decide +kernel
theorem dL_learn_8 : decode cL_learn 8 = .ok (.lastore, 1) := by decide +kernel
theorem dL_learn_9 : decode cL_learn 9 = .ok (.goto 9, 3) := by decide +kernel
theorem dL_learn_12 : decode cL_learn 12 = .ok (.astore_n 3, 1) := by decide +kernel
theorem dL_learn_13 : decode cL_learn 13 = .ok (.iconst 1, 1) := by decide +kernel
theorem dL_learn_14 : decode cL_learn 14 = .ok (.ireturn, 1) := by decide +kernel
theorem dL_learn_15 : decode cL_learn 15 = .ok (.astore_n 3, 1) := by decide +kernel
theorem dL_learn_16 : decode cL_learn 16 = .ok (.iconst 2, 1) := by decide +kernel
theorem dL_learn_17 : decode cL_learn 17 = .ok (.ireturn, 1) := by decide +kernel
theorem dL_learn_18 : decode cL_learn 18 = .ok (.iconst 0, 1) := by decide +kernel
theorem dL_learn_19 : decode cL_learn 19 = .ok (.ireturn, 1) := by decide +kernel
set_option maxRecDepth 20000 in
theorem ggL_law_X7_init : GoodIn wsL_law wsX7_init := goodIn_g _ [(9, 114), (1164, 8), (1219, 56)] (by exact rfl) (by decide +kernel)
set_option maxRecDepth 20000 in
theorem gL_law_X7_init : GoodIn wsL_law (wsX7_init) := ggL_law_X7_init
set_option maxRecDepth 20000 in
theorem ggL_law_X8_init : GoodIn wsL_law wsX8_init := goodIn_g _ [(125, 2), (11, 3), (127, 12), (57, 1), (139, 27), (1172, 47)] (by exact rfl) (by decide +kernel)
set_option maxRecDepth 20000 in
theorem gL_law_X8_init : GoodIn wsL_law (wsX8_init) := ggL_law_X8_init
set_option maxRecDepth 20000 in
theorem ggL_law_L_type : GoodIn wsL_law wsL_type := goodIn_ca (goodIn_ca (goodIn_g _ [(169, 6), (2, 1), (175, 5), (15, 1), (14, 1), (180, 3), (1164, 8)] (by exact rfl) (by decide +kernel)) (goodIn_sub (fun _ h => List.mem_append_left _ (List.mem_append_left _ (List.mem_append_right _ h))) (by decide +kernel))) (goodIn_sub (fun _ h => List.mem_append_left _ (List.mem_append_right _ h)) (by decide +kernel))
set_option maxRecDepth 20000 in
theorem gL_law_L_type : GoodIn wsL_law (va_wsS RL 109 yL_type wsL_type) := goodIn_app (goodIn_of _ (by decide +kernel)) ggL_law_L_type
set_option maxRecDepth 20000 in
theorem ggL_law_X8_type : GoodIn wsL_law wsX8_type := goodIn_g _ [(186, 2), (127, 1), (188, 2), (5, 1), (190, 6), (1172, 47)] (by exact rfl) (by decide +kernel)
set_option maxRecDepth 20000 in
theorem gL_law_X8_type : GoodIn wsL_law (wsV RL 114 RX8 yX8_type wsX8_type) := goodIn_app (goodIn_of _ (by decide +kernel)) ggL_law_X8_type
set_option maxRecDepth 20000 in
theorem ggL_law_X8_thrown : GoodIn wsL_law wsX8_thrown := goodIn_g _ [(199, 1), (195, 1), (1172, 47)] (by exact rfl) (by decide +kernel)
set_option maxRecDepth 20000 in
theorem gL_law_X8_thrown : GoodIn wsL_law (wsV RL 115 RX8 yX8_thrown wsX8_thrown) := goodIn_app (goodIn_of _ (by decide +kernel)) ggL_law_X8_thrown
set_option maxRecDepth 20000 in
theorem ggL_law_X7_clear : GoodIn wsL_law wsX7_clear := goodIn_g _ [(203, 1), (15, 1), (1164, 8)] (by exact rfl) (by decide +kernel)
set_option maxRecDepth 20000 in
theorem gL_law_X7_clear : GoodIn wsL_law (wsV RL 118 RX7 yX7_clear wsX7_clear) := goodIn_app (goodIn_of _ (by decide +kernel)) ggL_law_X7_clear
set_option maxRecDepth 20000 in
theorem ggL_law_X8_clear : GoodIn wsL_law wsX8_clear := goodIn_g _ [(207, 1), (195, 1), (187, 1), (1172, 47)] (by exact rfl) (by decide +kernel)
set_option maxRecDepth 20000 in
theorem gL_law_X8_clear : GoodIn wsL_law (wsV RL 121 RX8 yX8_clear wsX8_clear) := goodIn_app (goodIn_of _ (by decide +kernel)) ggL_law_X8_clear
set_option maxRecDepth 20000 in
theorem ggL_law_L_pair : GoodIn wsL_law wsL_pair := goodIn_ca (goodIn_ca (goodIn_g _ [(210, 1), (170, 2), (211, 3), (2, 1), (214, 1), (176, 2), (24, 1), (215, 3), (180, 3), (218, 3), (23, 1), (221, 5), (59, 3), (58, 1), (226, 4), (55, 2), (230, 10), (178, 2), (20, 1), (17, 1), (240, 8), (66, 1), (248, 4), (65, 1), (64, 1), (252, 4), (62, 2), (256, 16), (69, 1), (272, 3), (42, 1), (275, 1), (51, 1), (49, 2), (276, 13), (67, 1), (289, 18), (1164, 8), (1222, 13), (1219, 3), (1268, 3)] (by exact rfl) (by decide +kernel)) (goodIn_sub (fun _ h => List.mem_append_left _ (List.mem_append_left _ (List.mem_append_right _ h))) (by decide +kernel))) (goodIn_sub (fun _ h => List.mem_append_left _ (List.mem_append_right _ h)) (by decide +kernel))
