theorem dL_type_0 : decode cL_type 0 = .ok (.aload_n 2, 1) := by decide +kernel
theorem dL_type_1 : decode cL_type 1 = .ok (.iconst 0, 1) := by decide +kernel
theorem dL_type_2 : decode cL_type 2 = .ok (.aload_n 0, 1) := by decide +kernel
theorem dL_type_3 : decode cL_type 3 = .ok (.iload_n 1, 1) := by decide +kernel
theorem dL_type_4 : decode cL_type 4 = .ok (.invokevirtual 7, 3) := by decide +kernel
theorem dL_type_7 : decode cL_type 7 = .ok (.i2l, 1) := by decide +kernel
theorem dL_type_8 : decode cL_type 8 = .ok (.lastore, 1) := by decide +kernel
theorem dL_type_9 : decode cL_type 9 = .ok (.goto 9, 3) := by decide +kernel
theorem dL_type_12 : decode cL_type 12 = .ok (.astore_n 3, 1) := by decide +kernel
theorem dL_type_13 : decode cL_type 13 = .ok (.iconst 1, 1) := by decide +kernel
theorem dL_type_14 : decode cL_type 14 = .ok (.ireturn, 1) := by decide +kernel
theorem dL_type_15 : decode cL_type 15 = .ok (.astore_n 3, 1) := by decide +kernel
theorem dL_type_16 : decode cL_type 16 = .ok (.iconst 2, 1) := by decide +kernel
theorem dL_type_17 : decode cL_type 17 = .ok (.ireturn, 1) := by decide +kernel
theorem dL_type_18 : decode cL_type 18 = .ok (.iconst 0, 1) := by decide +kernel
theorem dL_type_19 : decode cL_type 19 = .ok (.ireturn, 1) := by decide +kernel
set_option maxRecDepth 20000 in
theorem ggL_pair_X7_pair : GoodIn wsL_pair wsX7_pair := goodIn_ca (goodIn_ca (goodIn_r _ [7, 8, 9, 10, 11, 12, 6, 13, 14, 15, 16, 17, 18, 19, 20, 21, 22, 23, 24, 25, 26, 27, 28, 29, 30, 31, 32, 33, 34, 35, 36, 37, 38, 39, 40, 41, 42, 43, 44, 45, 46, 47, 48, 49, 50, 51, 52, 53, 54, 55, 56, 57, 58, 59, 60, 61, 62, 63, 64, 65, 66, 67, 68, 69, 70, 71, 72, 73, 74, 75, 76, 77, 78, 79, 80, 81, 82, 83, 84, 85, 86, 87, 88, 89, 90, 91, 92, 93, 94, 95, 96, 97, 98, 99, 100, 101, 102, 103, 104, 105, 106, 107, 108, 109, 110, 111, 112, 113, 114, 115, 116, 117, 118, 119, 120, 121, 122, 123, 124, 125, 126, 127, 128, 129, 130, 131, 132, 133, 134, 135, 136, 137, 138, 139, 140, 141, 142, 143, 144, 145, 146, 147, 148, 149, 150, 151, 152, 153, 154] (by exact rfl) (by decide +kernel)) (goodIn_sub (fun _ h => List.mem_cons_of_mem _ (List.mem_append_left _ (List.mem_append_right _ h))) (by decide +kernel))) (goodIn_sub (fun _ h => List.mem_cons_of_mem _ (List.mem_append_right _ h)) (by decide +kernel))
set_option maxRecDepth 20000 in
theorem gL_pair_X7_pair : GoodIn wsL_pair (wsV RL 17 RX7 yX7_pair wsX7_pair) := goodIn_app (goodIn_of _ (by decide +kernel)) ggL_pair_X7_pair
theorem dL_pair_0 : decode cL_pair 0 = .ok (.aload 4, 2) := by decide +kernel
theorem dL_pair_2 : decode cL_pair 2 = .ok (.iconst 0, 1) := by decide +kernel
theorem dL_pair_3 : decode cL_pair 3 = .ok (.aload_n 0, 1) := by decide +kernel
theorem dL_pair_4 : decode cL_pair 4 = .ok (.iload_n 1, 1) := by decide +kernel
theorem dL_pair_5 : decode cL_pair 5 = .ok (.iload_n 2, 1) := by decide +kernel
theorem dL_pair_6 : decode cL_pair 6 = .ok (.iload_n 3, 1) := by decide +kernel
theorem dL_pair_7 : decode cL_pair 7 = .ok (.invokevirtual 17, 3) := by decide +kernel
theorem dL_pair_10 : decode cL_pair 10 = .ok (.i2l, 1) := by decide +kernel
theorem dL_pair_11 : decode cL_pair 11 = .ok (.lastore, 1) := by decide +kernel
theorem dL_pair_12 : decode cL_pair 12 = .ok (.goto 11, 3) := by decide +kernel
theorem dL_pair_15 : decode cL_pair 15 = .ok (.astore 5, 2) := by decide +kernel
theorem dL_pair_17 : decode cL_pair 17 = .ok (.iconst 1, 1) := by decide +kernel
theorem dL_pair_18 : decode cL_pair 18 = .ok (.ireturn, 1) := by decide +kernel
theorem dL_pair_19 : decode cL_pair 19 = .ok (.astore 5, 2) := by decide +kernel
theorem dL_pair_21 : decode cL_pair 21 = .ok (.iconst 2, 1) := by decide +kernel
theorem dL_pair_22 : decode cL_pair 22 = .ok (.ireturn, 1) := by decide +kernel
theorem dL_pair_23 : decode cL_pair 23 = .ok (.iconst 0, 1) := by decide +kernel
theorem dL_pair_24 : decode cL_pair 24 = .ok (.ireturn, 1) := by decide +kernel
set_option maxRecDepth 20000 in
theorem ggL_word_X7_word : GoodIn wsL_word wsX7_word := goodIn_ca (goodIn_r _ [6, 7, 8, 9, 10, 11, 12, 13, 14, 15, 16, 17, 18, 19, 20, 21, 22, 23, 24, 25, 26, 27, 28, 29, 5, 30, 31, 32, 33, 34, 35, 36, 37, 38, 39, 40, 41, 42, 43, 44, 45, 46, 47, 48, 49, 50, 51, 52, 53, 54, 55, 56, 57, 58, 59, 60, 61, 62, 63, 64, 65, 66, 67, 68, 69, 70, 71, 72, 73, 74, 75, 76, 77, 78, 79, 80, 81, 82, 83, 84, 85, 86, 87, 88, 89, 90, 91, 92, 93, 94, 95, 96, 97, 98, 99, 100, 101, 102, 103, 104, 105, 106, 107, 108, 109, 110, 111, 112, 113, 114, 115, 116, 117, 118, 119, 120, 121, 122, 123, 124, 125, 126, 127, 128, 129, 130, 131, 132, 133, 134, 135, 136, 137, 138, 139, 140, 141, 142, 143, 144, 145, 146, 147] (by exact rfl) (by decide +kernel)) (goodIn_sub (fun _ h => List.mem_cons_of_mem _ (List.mem_append_right _ h)) (by decide +kernel))
set_option maxRecDepth 20000 in
theorem gL_word_X7_word : GoodIn wsL_word (wsV RL 21 RX7 yX7_word wsX7_word) := goodIn_app (goodIn_of _ (by decide +kernel)) ggL_word_X7_word
theorem dL_word_0 : decode cL_word 0 = .ok (.aload_n 1, 1) := by decide +kernel
theorem dL_word_1 : decode cL_word 1 = .ok (.iconst 0, 1) := by decide +kernel
theorem dL_word_2 : decode cL_word 2 = .ok (.aload_n 0, 1) := by decide +kernel
theorem dL_word_3 : decode cL_word 3 = .ok (.invokevirtual 21, 3) := by decide +kernel
theorem dL_word_6 : decode cL_word 6 = .ok (.i2l, 1) := by decide +kernel
theorem dL_word_7 : decode cL_word 7 = .ok (.lastore, 1) := by decide +kernel
theorem dL_word_8 : decode cL_word 8 = .ok (.goto 6, 3) := by decide +kernel
theorem dL_word_11 : decode cL_word 11 = .ok (.astore_n 2, 1) := by decide +kernel
theorem dL_word_12 : decode cL_word 12 = .ok (.iconst 1, 1) := by decide +kernel
theorem dL_word_13 : decode cL_word 13 = .ok (.ireturn, 1) := by decide +kernel
theorem dL_word_14 : decode cL_word 14 = .ok (.iconst 0, 1) := by decide +kernel
theorem dL_word_15 : decode cL_word 15 = .ok (.ireturn, 1) := by decide +kernel
set_option maxRecDepth 20000 in
theorem ggL_any_X7_any : GoodIn wsL_any wsX7_any := goodIn_ca (goodIn_r _ [6, 7, 8, 9, 10, 11, 12, 13, 14, 15, 16, 17, 18, 19, 20, 21, 22, 23, 24, 25, 26, 27, 5, 28, 29, 30, 31, 32, 33, 34, 35, 36, 37, 38, 39, 40, 41, 42, 43, 44, 45, 46, 47, 48, 49, 50, 51, 52, 53, 54, 55, 56, 57, 58, 59, 60, 61, 62, 63, 64, 65, 66, 67, 68, 69, 70, 71, 72, 73, 74, 75, 76, 77, 78, 79, 80, 81, 82, 83, 84, 85, 86, 87, 88, 89, 90, 91, 92, 93, 94, 95, 96, 97, 98, 99, 100, 101, 102, 103, 104, 105, 106, 107, 108, 109, 110, 111, 112, 113, 114, 115, 116, 117, 118, 119, 120, 121, 122, 123, 124, 125, 126, 127, 128, 129, 130, 131, 132, 133, 134, 135, 136, 137, 138, 139, 140, 141, 142, 143, 144, 145] (by exact rfl) (by decide +kernel)) (goodIn_sub (fun _ h => List.mem_cons_of_mem _ (List.mem_append_right _ h)) (by decide +kernel))
set_option maxRecDepth 20000 in
theorem gL_any_X7_any : GoodIn wsL_any (wsV RL 25 RX7 yX7_any wsX7_any) := goodIn_app (goodIn_of _ (by decide +kernel)) ggL_any_X7_any
theorem dL_any_0 : decode cL_any 0 = .ok (.aload_n 1, 1) := by decide +kernel
theorem dL_any_1 : decode cL_any 1 = .ok (.iconst 0, 1) := by decide +kernel
theorem dL_any_2 : decode cL_any 2 = .ok (.aload_n 0, 1) := by decide +kernel
theorem dL_any_3 : decode cL_any 3 = .ok (.invokevirtual 25, 3) := by decide +kernel
theorem dL_any_6 : decode cL_any 6 = .ok (.i2l, 1) := by decide +kernel
theorem dL_any_7 : decode cL_any 7 = .ok (.lastore, 1) := by decide +kernel
theorem dL_any_8 : decode cL_any 8 = .ok (.goto 6, 3) := by decide +kernel
theorem dL_any_11 : decode cL_any 11 = .ok (.astore_n 2, 1) := by decide +kernel
theorem dL_any_12 : decode cL_any 12 = .ok (.iconst 1, 1) := by decide +kernel
theorem dL_any_13 : decode cL_any 13 = .ok (.ireturn, 1) := by decide +kernel
theorem dL_any_14 : decode cL_any 14 = .ok (.iconst 0, 1) := by decide +kernel
theorem dL_any_15 : decode cL_any 15 = .ok (.ireturn, 1) := by decide +kernel
set_option maxRecDepth 20000 in
theorem ggL_join_X7_join : GoodIn wsL_join wsX7_join := goodIn_ca (goodIn_ca (goodIn_r _ [7, 8, 9, 10, 11, 12, 13, 6, 14, 15, 16, 17, 18, 19, 20, 21, 22, 23, 24, 25, 26, 27, 28, 29, 30, 31, 32, 33, 34, 35, 36, 37, 38, 39, 40, 41, 42, 43, 44, 45, 46, 47, 48, 49, 50, 51, 52, 53, 54, 55, 56, 57, 58, 59, 60, 61, 62, 63, 64, 65, 66, 67, 68, 69, 70, 71, 72, 73, 74, 75, 76, 77, 78, 79, 80, 81, 82, 83, 84, 85, 86, 87, 88, 89, 90, 91, 92, 93, 94, 95, 96, 97, 98, 99, 100, 101, 102, 103, 104, 105, 106, 107, 108, 109, 110, 111, 112, 113, 114, 115, 116, 117, 118, 119, 120, 121, 122, 123, 124, 125, 126, 127, 128, 129, 130, 131, 132, 133, 134, 135, 136, 137, 138, 139, 140, 141, 142, 143, 144, 145, 146, 147, 148, 149, 150, 151, 152, 153, 154, 155, 156, 157, 158, 159, 160, 161, 162, 163, 164, 165, 166, 167] (by exact rfl) (by decide +kernel)) (goodIn_sub (fun _ h => List.mem_cons_of_mem _ (List.mem_append_left _ (List.mem_append_right _ h))) (by decide +kernel))) (goodIn_sub (fun _ h => List.mem_cons_of_mem _ (List.mem_append_right _ h)) (by decide +kernel))
set_option maxRecDepth 20000 in
theorem gL_join_X7_join : GoodIn wsL_join (wsV RL 28 RX7 yX7_join wsX7_join) := goodIn_app (goodIn_of _ (by decide +kernel)) ggL_join_X7_join
theorem dL_join_0 : decode cL_join 0 = .ok (.aload_n 3, 1) := by decide +kernel
theorem dL_join_1 : decode cL_join 1 = .ok (.iconst 0, 1) := by decide +kernel
theorem dL_join_2 : decode cL_join 2 = .ok (.aload_n 0, 1) := by decide +kernel
theorem dL_join_3 : decode cL_join 3 = .ok (.iload_n 1, 1) := by decide +kernel
theorem dL_join_4 : decode cL_join 4 = .ok (.iload_n 2, 1) := by decide +kernel
theorem dL_join_5 : decode cL_join 5 = .ok (.invokevirtual 28, 3) := by decide +kernel
theorem dL_join_8 : decode cL_join 8 = .ok (.i2l, 1) := by decide +kernel
theorem dL_join_9 : decode cL_join 9 = .ok (.lastore, 1) := by decide +kernel
theorem dL_join_10 : decode cL_join 10 = .ok (.goto 11, 3) := by decide +kernel
theorem dL_join_13 : decode cL_join 13 = .ok (.astore 4, 2) := by decide +kernel
theorem dL_join_15 : decode cL_join 15 = .ok (.iconst 1, 1) := by decide +kernel
theorem dL_join_16 : decode cL_join 16 = .ok (.ireturn, 1) := by decide +kernel
theorem dL_join_17 : decode cL_join 17 = .ok (.astore 4, 2) := by decide +kernel
theorem dL_join_19 : decode cL_join 19 = .ok (.iconst 2, 1) := by decide +kernel
theorem dL_join_20 : decode cL_join 20 = .ok (.ireturn, 1) := by decide +kernel
theorem dL_join_21 : decode cL_join 21 = .ok (.iconst 0, 1) := by decide +kernel
theorem dL_join_22 : decode cL_join 22 = .ok (.ireturn, 1) := by decide +kernel
set_option maxRecDepth 20000 in
theorem ggL_unite_X7_unite : GoodIn wsL_unite wsX7_unite := goodIn_ca (goodIn_ca (goodIn_r _ [7, 8, 9, 10, 11, 12, 13, 6, 14, 15, 16, 17, 18, 19, 20, 21, 22, 23, 24, 25, 26, 27, 28, 29, 30, 31, 32, 33, 34, 35, 36, 37, 38, 39, 40, 41, 42, 43, 44, 45, 46, 47, 48, 49, 50, 51, 52, 53, 54, 55, 56, 57, 58, 59, 60, 61, 62, 63, 64, 65, 66, 67, 68, 69, 70, 71, 72, 73, 74, 75, 76, 77, 78, 79, 80, 81, 82, 83, 84, 85, 86, 87, 88, 89, 90, 91, 92, 93, 94, 95, 96, 97, 98, 99, 100, 101, 102, 103, 104, 105, 106, 107, 108, 109, 110, 111, 112, 113, 114, 115, 116, 117, 118, 119, 120, 121, 122, 123, 124, 125, 126, 127, 128, 129, 130, 131, 132, 133, 134, 135, 136, 137, 138, 139, 140, 141, 142, 143, 144, 145, 146, 147, 148, 149, 150, 151, 152, 153, 154, 155, 156, 157, 158, 159, 160, 161, 162, 163, 164] (by exact rfl) (by decide +kernel)) (goodIn_sub (fun _ h => List.mem_cons_of_mem _ (List.mem_append_left _ (List.mem_append_right _ h))) (by decide +kernel))) (goodIn_sub (fun _ h => List.mem_cons_of_mem _ (List.mem_append_right _ h)) (by decide +kernel))
set_option maxRecDepth 20000 in
theorem gL_unite_X7_unite : GoodIn wsL_unite (wsV RL 34 RX7 yX7_unite wsX7_unite) := goodIn_app (goodIn_of _ (by decide +kernel)) ggL_unite_X7_unite
theorem dL_unite_0 : decode cL_unite 0 = .ok (.aload_n 3, 1) := by decide +kernel
theorem dL_unite_1 : decode cL_unite 1 = .ok (.iconst 0, 1) := by decide +kernel
theorem dL_unite_2 : decode cL_unite 2 = .ok (.aload_n 0, 1) := by decide +kernel
theorem dL_unite_3 : decode cL_unite 3 = .ok (.iload_n 1, 1) := by decide +kernel
theorem dL_unite_4 : decode cL_unite 4 = .ok (.iload_n 2, 1) := by decide +kernel
theorem dL_unite_5 : decode cL_unite 5 = .ok (.invokevirtual 34, 3) := by decide +kernel
theorem dL_unite_8 : decode cL_unite 8 = .ok (.i2l, 1) := by decide +kernel
theorem dL_unite_9 : decode cL_unite 9 = .ok (.lastore, 1) := by decide +kernel
theorem dL_unite_10 : decode cL_unite 10 = .ok (.goto 11, 3) := by decide +kernel
theorem dL_unite_13 : decode cL_unite 13 = .ok (.astore 4, 2) := by decide +kernel
theorem dL_unite_15 : decode cL_unite 15 = .ok (.iconst 1, 1) := by decide +kernel
theorem dL_unite_16 : decode cL_unite 16 = .ok (.ireturn, 1) := by decide +kernel
theorem dL_unite_17 : decode cL_unite 17 = .ok (.astore 4, 2) := by decide +kernel
theorem dL_unite_19 : decode cL_unite 19 = .ok (.iconst 2, 1) := by decide +kernel
theorem dL_unite_20 : decode cL_unite 20 = .ok (.ireturn, 1) := by decide +kernel
theorem dL_unite_21 : decode cL_unite 21 = .ok (.iconst 0, 1) := by decide +kernel
theorem dL_unite_22 : decode cL_unite 22 = .ok (.ireturn, 1) := by decide +kernel
set_option maxRecDepth 20000 in
theorem ggL_repeat_X7_repeat : GoodIn wsL_repeat wsX7_repeat := goodIn_ca (goodIn_ca (goodIn_r _ [7, 8, 9, 10, 11, 12, 13, 14, 15, 6, 16, 17, 18, 19, 20, 21, 22, 23, 24, 25, 26, 27, 28, 29, 30, 31, 32, 33, 34, 35, 36, 37, 38, 39, 40, 41, 42, 43, 44, 45, 46, 47, 48, 49, 50, 51, 52, 53, 54, 55, 56, 57, 58, 59, 60, 61, 62, 63, 64, 65, 66, 67, 68, 69, 70, 71, 72, 73, 74, 75, 76, 77, 78, 79, 80, 81, 82, 83, 84, 85, 86, 87, 88, 89, 90, 91, 92, 93, 94, 95, 96, 97, 98, 99, 100, 101, 102, 103, 104, 105, 106, 107, 108, 109, 110, 111, 112, 113, 114, 115, 116, 117, 118, 119, 120, 121, 122, 123, 124, 125, 126, 127, 128, 129, 130, 131, 132, 133, 134, 135, 136, 137, 138, 139, 140, 141, 142, 143, 144, 145, 146, 147, 148, 149, 150, 151, 152, 153, 154, 155, 156, 157, 158, 159, 160, 161, 162, 163, 164, 165, 166, 167, 168, 169, 170, 171, 172, 173, 174] (by exact rfl) (by decide +kernel)) (goodIn_sub (fun _ h => List.mem_cons_of_mem _ (List.mem_append_left _ (List.mem_append_right _ h))) (by decide +kernel))) (goodIn_sub (fun _ h => List.mem_cons_of_mem _ (List.mem_append_right _ h)) (by decide +kernel))
set_option maxRecDepth 20000 in
theorem gL_repeat_X7_repeat : GoodIn wsL_repeat (wsV RL 37 RX7 yX7_repeat wsX7_repeat) := goodIn_app (goodIn_of _ (by decide +kernel)) ggL_repeat_X7_repeat
theorem dL_repeat_0 : decode cL_repeat 0 = .ok (.aload_n 2, 1) := by decide +kernel
theorem dL_repeat_1 : decode cL_repeat 1 = .ok (.iconst 0, 1) := by decide +kernel
theorem dL_repeat_2 : decode cL_repeat 2 = .ok (.aload_n 0, 1) := by decide +kernel
theorem dL_repeat_3 : decode cL_repeat 3 = .ok (.iload_n 1, 1) := by decide +kernel
theorem dL_repeat_4 : decode cL_repeat 4 = .ok (.invokevirtual 37, 3) := by decide +kernel
theorem dL_repeat_7 : decode cL_repeat 7 = .ok (.i2l, 1) := by decide +kernel
theorem dL_repeat_8 : decode cL_repeat 8 = .ok (.lastore, 1) := by decide +kernel
theorem dL_repeat_9 : decode cL_repeat 9 = .ok (.goto 9, 3) := by decide +kernel
theorem dL_repeat_12 : decode cL_repeat 12 = .ok (.astore_n 3, 1) := by decide +kernel
theorem dL_repeat_13 : decode cL_repeat 13 = .ok (.iconst 1, 1) := by decide +kernel
theorem dL_repeat_14 : decode cL_repeat 14 = .ok (.ireturn, 1) := by decide +kernel
theorem dL_repeat_15 : decode cL_repeat 15 = .ok (.astore_n 3, 1) := by decide +kernel
theorem dL_repeat_16 : decode cL_repeat 16 = .ok (.iconst 2, 1) := by decide +kernel
theorem dL_repeat_17 : decode cL_repeat 17 = .ok (.ireturn, 1) := by decide +kernel
theorem dL_repeat_18 : decode cL_repeat 18 = .ok (.iconst 0, 1) := by decide +kernel
theorem dL_repeat_19 : decode cL_repeat 19 = .ok (.ireturn, 1) := by decide +kernel
set_option maxRecDepth 20000 in
theorem ggL_turn_X7_turn : GoodIn wsL_turn wsX7_turn := goodIn_ca (goodIn_ca (goodIn_r _ [7, 8, 9, 10, 11, 12, 13, 14, 15, 16, 17, 6, 18, 19, 20, 21, 22, 23, 24, 25, 26, 27, 28, 29, 30, 31, 32, 33, 34, 35, 36, 37, 38, 39, 40, 41, 42, 43, 44, 45, 46, 47, 48, 49, 50, 51, 52, 53, 54, 55, 56, 57, 58, 59, 60, 61, 62, 63, 64, 65, 66, 67, 68, 69, 70, 71, 72, 73, 74, 75, 76, 77, 78, 79, 80, 81, 82, 83, 84, 85, 86, 87, 88, 89, 90, 91, 92, 93, 94, 95, 96, 97, 98, 99, 100, 101, 102, 103, 104, 105, 106, 107, 108, 109, 110, 111, 112, 113, 114, 115, 116, 117, 118, 119, 120, 121, 122, 123, 124, 125, 126, 127, 128, 129, 130, 131, 132, 133, 134, 135, 136, 137, 138, 139, 140, 141, 142, 143, 144, 145, 146, 147, 148, 149, 150, 151, 152, 153, 154, 155, 156, 157, 158, 159, 160, 161, 162, 163, 164, 165, 166, 167] (by exact rfl) (by decide +kernel)) (goodIn_sub (fun _ h => List.mem_cons_of_mem _ (List.mem_append_left _ (List.mem_append_right _ h))) (by decide +kernel))) (goodIn_sub (fun _ h => List.mem_cons_of_mem _ (List.mem_append_right _ h)) (by decide +kernel))
set_option maxRecDepth 20000 in
theorem gL_turn_X7_turn : GoodIn wsL_turn (wsV RL 40 RX7 yX7_turn wsX7_turn) := goodIn_app (goodIn_of _ (by decide +kernel)) ggL_turn_X7_turn
theorem dL_turn_0 : decode cL_turn 0 = .ok (.aload_n 2, 1) := by decide +kernel
theorem dL_turn_1 : decode cL_turn 1 = .ok (.iconst 0, 1) := by decide +kernel
theorem dL_turn_2 : decode cL_turn 2 = .ok (.aload_n 0, 1) := by decide +kernel
theorem dL_turn_3 : decode cL_turn 3 = .ok (.iload_n 1, 1) := by decide +kernel
theorem dL_turn_4 : decode cL_turn 4 = .ok (.invokevirtual 40, 3) := by decide +kernel
theorem dL_turn_7 : decode cL_turn 7 = .ok (.i2l, 1) := by decide +kernel
theorem dL_turn_8 : decode cL_turn 8 = .ok (.lastore, 1) := by decide +kernel
theorem dL_turn_9 : decode cL_turn 9 = .ok (.goto 9, 3) := by decide +kernel
theorem dL_turn_12 : decode cL_turn 12 = .ok (.astore_n 3, 1) := by decide +kernel
theorem dL_turn_13 : decode cL_turn 13 = .ok (.iconst 1, 1) := by decide +kernel
theorem dL_turn_14 : decode cL_turn 14 = .ok (.ireturn, 1) := by decide +kernel
theorem dL_turn_15 : decode cL_turn 15 = .ok (.astore_n 3, 1) := by decide +kernel
theorem dL_turn_16 : decode cL_turn 16 = .ok (.iconst 2, 1) := by decide +kernel
theorem dL_turn_17 : decode cL_turn 17 = .ok (.ireturn, 1) := by decide +kernel
theorem dL_turn_18 : decode cL_turn 18 = .ok (.iconst 0, 1) := by decide +kernel
theorem dL_turn_19 : decode cL_turn 19 = .ok (.ireturn, 1) := by decide +kernel
set_option maxRecDepth 20000 in
theorem ggL_compose_X7_compose : GoodIn wsL_compose wsX7_compose := goodIn_ca (goodIn_ca (goodIn_r _ [7, 8, 9, 10, 11, 12, 13, 14, 15, 6, 16, 17, 18, 19, 20, 21, 22, 23, 24, 25, 26, 27, 28, 29, 30, 31, 32, 33, 34, 35, 36, 37, 38, 39, 40, 41, 42, 43, 44, 45, 46, 47, 48, 49, 50, 51, 52, 53, 54, 55, 56, 57, 58, 59, 60, 61, 62, 63, 64, 65, 66, 67, 68, 69, 70, 71, 72, 73, 74, 75, 76, 77, 78, 79, 80, 81, 82, 83, 84, 85, 86, 87, 88, 89, 90, 91, 92, 93, 94, 95, 96, 97, 98, 99, 100, 101, 102, 103, 104, 105, 106, 107, 108, 109, 110, 111, 112, 113, 114, 115, 116, 117, 118, 119, 120, 121, 122, 123, 124, 125, 126, 127, 128, 129, 130, 131, 132, 133, 134, 135, 136, 137, 138, 139, 140, 141, 142, 143, 144, 145, 146, 147, 148, 149, 150, 151, 152, 153, 154, 155, 156, 157, 158, 159, 160, 161, 162, 163, 164, 165, 166, 167, 168, 169, 170, 171, 172, 173, 174, 175, 176, 177, 178, 179, 180, 181, 182, 183, 184, 185, 186] (by exact rfl) (by decide +kernel)) (goodIn_sub (fun _ h => List.mem_cons_of_mem _ (List.mem_append_left _ (List.mem_append_right _ h))) (by decide +kernel))) (goodIn_sub (fun _ h => List.mem_cons_of_mem _ (List.mem_append_right _ h)) (by decide +kernel))
set_option maxRecDepth 20000 in
theorem gL_compose_X7_compose : GoodIn wsL_compose (wsV RL 43 RX7 yX7_compose wsX7_compose) := goodIn_app (goodIn_of _ (by decide +kernel)) ggL_compose_X7_compose
theorem dL_compose_0 : decode cL_compose 0 = .ok (.aload_n 3, 1) := by decide +kernel
theorem dL_compose_1 : decode cL_compose 1 = .ok (.iconst 0, 1) := by decide +kernel
theorem dL_compose_2 : decode cL_compose 2 = .ok (.aload_n 0, 1) := by decide +kernel
theorem dL_compose_3 : decode cL_compose 3 = .ok (.iload_n 1, 1) := by decide +kernel
theorem dL_compose_4 : decode cL_compose 4 = .ok (.iload_n 2, 1) := by decide +kernel
theorem dL_compose_5 : decode cL_compose 5 = .ok (.invokevirtual 43, 3) := by decide +kernel
theorem dL_compose_8 : decode cL_compose 8 = .ok (.i2l, 1) := by decide +kernel
theorem dL_compose_9 : decode cL_compose 9 = .ok (.lastore, 1) := by decide +kernel
theorem dL_compose_10 : decode cL_compose 10 = .ok (.goto 11, 3) := by decide +kernel
theorem dL_compose_13 : decode cL_compose 13 = .ok (.astore 4, 2) := by decide +kernel
theorem dL_compose_15 : decode cL_compose 15 = .ok (.iconst 1, 1) := by decide +kernel
theorem dL_compose_16 : decode cL_compose 16 = .ok (.ireturn, 1) := by decide +kernel
theorem dL_compose_17 : decode cL_compose 17 = .ok (.astore 4, 2) := by decide +kernel
theorem dL_compose_19 : decode cL_compose 19 = .ok (.iconst 2, 1) := by decide +kernel
theorem dL_compose_20 : decode cL_compose 20 = .ok (.ireturn, 1) := by decide +kernel
theorem dL_compose_21 : decode cL_compose 21 = .ok (.iconst 0, 1) := by decide +kernel
theorem dL_compose_22 : decode cL_compose 22 = .ok (.ireturn, 1) := by decide +kernel
set_option maxRecDepth 20000 in
theorem ggL_side_X7_side : GoodIn wsL_side wsX7_side := goodIn_ca (goodIn_ca (goodIn_r _ [7, 8, 9, 10, 11, 12, 13, 14, 15, 16, 6, 17, 18, 19, 20, 21, 22, 23, 24, 25, 26, 27, 28, 29, 30, 31, 32, 33, 34, 35, 36, 37, 38, 39, 40, 41, 42, 43, 44, 45, 46, 47, 48, 49, 50, 51, 52, 53, 54, 55, 56, 57, 58, 59, 60, 61, 62, 63, 64, 65, 66, 67, 68, 69, 70, 71, 72, 73, 74, 75, 76, 77, 78, 79, 80, 81, 82, 83, 84, 85, 86, 87, 88, 89, 90, 91, 92, 93, 94, 95, 96, 97, 98, 99, 100, 101, 102, 103, 104, 105, 106, 107, 108, 109, 110, 111, 112, 113, 114, 115, 116, 117, 118, 119, 120, 121, 122, 123, 124, 125, 126, 127, 128, 129, 130, 131, 132, 133, 134, 135, 136, 137, 138, 139, 140, 141, 142, 143, 144, 145, 146, 147, 148, 149, 150, 151, 152, 153, 154, 155, 156, 157, 158, 159, 160, 161, 162, 163, 164, 165, 166] (by exact rfl) (by decide +kernel)) (goodIn_sub (fun _ h => List.mem_cons_of_mem _ (List.mem_append_left _ (List.mem_append_right _ h))) (by decide +kernel))) (goodIn_sub (fun _ h => List.mem_cons_of_mem _ (List.mem_append_right _ h)) (by decide +kernel))
set_option maxRecDepth 20000 in
theorem gL_side_X7_side : GoodIn wsL_side (wsV RL 46 RX7 yX7_side wsX7_side) := goodIn_app (goodIn_of _ (by decide +kernel)) ggL_side_X7_side
theorem dL_side_0 : decode cL_side 0 = .ok (.aload_n 3, 1) := by decide +kernel
theorem dL_side_1 : decode cL_side 1 = .ok (.iconst 0, 1) := by decide +kernel
theorem dL_side_2 : decode cL_side 2 = .ok (.aload_n 0, 1) := by decide +kernel
theorem dL_side_3 : decode cL_side 3 = .ok (.iload_n 1, 1) := by decide +kernel
theorem dL_side_4 : decode cL_side 4 = .ok (.iload_n 2, 1) := by decide +kernel
theorem dL_side_5 : decode cL_side 5 = .ok (.invokevirtual 46, 3) := by decide +kernel
theorem dL_side_8 : decode cL_side 8 = .ok (.i2l, 1) := by decide +kernel
theorem dL_side_9 : decode cL_side 9 = .ok (.lastore, 1) := by decide +kernel
theorem dL_side_10 : decode cL_side 10 = .ok (.goto 11, 3) := by decide +kernel
theorem dL_side_13 : decode cL_side 13 = .ok (.astore 4, 2) := by decide +kernel
theorem dL_side_15 : decode cL_side 15 = .ok (.iconst 1, 1) := by decide +kernel
theorem dL_side_16 : decode cL_side 16 = .ok (.ireturn, 1) := by decide +kernel
theorem dL_side_17 : decode cL_side 17 = .ok (.astore 4, 2) := by decide +kernel
theorem dL_side_19 : decode cL_side 19 = .ok (.iconst 2, 1) := by decide +kernel
theorem dL_side_20 : decode cL_side 20 = .ok (.ireturn, 1) := by decide +kernel
theorem dL_side_21 : decode cL_side 21 = .ok (.iconst 0, 1) := by decide +kernel
theorem dL_side_22 : decode cL_side 22 = .ok (.ireturn, 1) := by decide +kernel
set_option maxRecDepth 20000 in
theorem ggL_least_X7_least : GoodIn wsL_least wsX7_least := goodIn_ca (goodIn_ca (goodIn_r _ [7, 8, 9, 10, 11, 12, 13, 6, 14, 15, 16, 17, 18, 19, 20, 21, 22, 23, 24, 25, 26, 27, 28, 29, 30, 31, 32, 33, 34, 35, 36, 37, 38, 39, 40, 41, 42, 43, 44, 45, 46, 47, 48, 49, 50, 51, 52, 53, 54, 55, 56, 57, 58, 59, 60, 61, 62, 63, 64, 65, 66, 67, 68, 69, 70, 71, 72, 73, 74, 75, 76, 77, 78, 79, 80, 81, 82, 83, 84, 85, 86, 87, 88, 89, 90, 91, 92, 93, 94, 95, 96, 97, 98, 99, 100, 101, 102, 103, 104, 105, 106, 107, 108, 109, 110, 111, 112, 113, 114, 115, 116, 117, 118, 119, 120, 121, 122, 123, 124, 125, 126, 127, 128, 129, 130, 131, 132, 133, 134, 135, 136, 137, 138, 139, 140, 141, 142, 143, 144, 145, 146, 147, 148, 149, 150, 151, 152, 153, 154, 155, 156, 157, 158, 159, 160, 161, 162, 163, 164, 165, 166, 167, 168, 169, 170, 171, 172, 173, 174, 175, 176, 177, 178, 179, 180, 181, 182, 183, 184, 185, 186, 187, 188, 189, 190, 191, 192, 193, 194, 195, 196, 197, 198, 199, 200, 201, 202, 203, 204, 205, 206, 207, 208, 209, 210, 211, 212, 213, 214, 215, 216, 217, 218, 219, 220, 221, 222, 223, 224, 225, 226, 227, 228, 229, 230, 231, 232, 233, 234, 235, 236, 237, 238, 239, 240, 241, 242, 243, 244, 245, 246, 247, 248, 249, 250, 251, 252, 253, 254, 255, 256, 257, 258, 259, 260, 261, 262, 263, 264, 265, 266, 267, 268, 269, 270, 271, 272, 273, 274, 275, 276, 277, 278, 279, 280, 281, 282, 283, 284, 285, 286, 287, 288, 289, 290, 291, 292, 293, 294, 295, 296, 297, 298, 299] (by exact rfl) (by decide +kernel)) (goodIn_sub (fun _ h => List.mem_cons_of_mem _ (List.mem_append_left _ (List.mem_append_right _ h))) (by decide +kernel))) (goodIn_sub (fun _ h => List.mem_cons_of_mem _ (List.mem_append_right _ h)) (by decide +kernel))
set_option maxRecDepth 20000 in
theorem gL_least_X7_least : GoodIn wsL_least (wsV RL 50 RX7 yX7_least wsX7_least) := goodIn_app (goodIn_of _ (by decide +kernel)) ggL_least_X7_least
theorem dL_least_0 : decode cL_least 0 = .ok (.aload_n 2, 1) := by decide +kernel
theorem dL_least_1 : decode cL_least 1 = .ok (.iconst 0, 1) := by decide +kernel
theorem dL_least_2 : decode cL_least 2 = .ok (.aload_n 0, 1) := by decide +kernel
theorem dL_least_3 : decode cL_least 3 = .ok (.iload_n 1, 1) := by decide +kernel
theorem dL_least_4 : decode cL_least 4 = .ok (.invokevirtual 50, 3) := by decide +kernel
theorem dL_least_7 : decode cL_least 7 = .ok (.i2l, 1) := by decide +kernel
theorem dL_least_8 : decode cL_least 8 = .ok (.lastore, 1) := by decide +kernel
theorem dL_least_9 : decode cL_least 9 = .ok (.goto 9, 3) := by decide +kernel
theorem dL_least_12 : decode cL_least 12 = .ok (.astore_n 3, 1) := by decide +kernel
theorem dL_least_13 : decode cL_least 13 = .ok (.iconst 1, 1) := by decide +kernel
theorem dL_least_14 : decode cL_least 14 = .ok (.ireturn, 1) := by decide +kernel
theorem dL_least_15 : decode cL_least 15 = .ok (.astore_n 3, 1) := by decide +kernel
theorem dL_least_16 : decode cL_least 16 = .ok (.iconst 2, 1) := by decide +kernel
theorem dL_least_17 : decode cL_least 17 = .ok (.ireturn, 1) := by decide +kernel
theorem dL_least_18 : decode cL_least 18 = .ok (.iconst 0, 1) := by decide +kernel
theorem dL_least_19 : decode cL_least 19 = .ok (.ireturn, 1) := by decide +kernel
set_option maxRecDepth 20000 in
theorem ggL_meet_X7_meet : GoodIn wsL_meet wsX7_meet := goodIn_ca (goodIn_ca (goodIn_r _ [7, 8, 9, 10, 11, 12, 13, 6, 14, 15, 16, 17, 18, 19, 20, 21, 22, 23, 24, 25, 26, 27, 28, 29, 30, 31, 32, 33, 34, 35, 36, 37, 38, 39, 40, 41, 42, 43, 44, 45, 46, 47, 48, 49, 50, 51, 52, 53, 54, 55, 56, 57, 58, 59, 60, 61, 62, 63, 64, 65, 66, 67, 68, 69, 70, 71, 72, 73, 74, 75, 76, 77, 78, 79, 80, 81, 82, 83, 84, 85, 86, 87, 88, 89, 90, 91, 92, 93, 94, 95, 96, 97, 98, 99, 100, 101, 102, 103, 104, 105, 106, 107, 108, 109, 110, 111, 112, 113, 114, 115, 116, 117, 118, 119, 120, 121, 122, 123, 124, 125, 126, 127, 128, 129, 130, 131, 132, 133, 134, 135, 136, 137, 138, 139, 140, 141, 142, 143, 144, 145, 146, 147, 148, 149, 150, 151, 152, 153, 154, 155, 156, 157, 158, 159, 160, 161, 162, 163, 164, 165, 166, 167, 168, 169, 170, 171, 172, 173, 174, 175, 176, 177, 178, 179, 180, 181, 182, 183, 184, 185, 186, 187, 188, 189, 190, 191, 192, 193, 194, 195, 196, 197, 198, 199, 200, 201, 202, 203, 204, 205, 206, 207, 208, 209, 210, 211, 212, 213, 214, 215, 216, 217, 218, 219, 220, 221, 222, 223, 224, 225, 226, 227, 228, 229, 230, 231, 232, 233, 234, 235, 236, 237, 238, 239, 240, 241, 242, 243, 244, 245, 246, 247, 248, 249, 250, 251, 252, 253, 254, 255, 256, 257, 258, 259, 260, 261, 262, 263, 264, 265, 266, 267, 268, 269, 270, 271, 272, 273, 274, 275, 276, 277, 278, 279, 280, 281, 282, 283, 284, 285, 286, 287, 288, 289, 290, 291, 292, 293, 294, 295] (by exact rfl) (by decide +kernel)) (goodIn_sub (fun _ h => List.mem_cons_of_mem _ (List.mem_append_left _ (List.mem_append_right _ h))) (by decide +kernel))) (goodIn_sub (fun _ h => List.mem_cons_of_mem _ (List.mem_append_right _ h)) (by decide +kernel))
set_option maxRecDepth 20000 in
theorem gL_meet_X7_meet : GoodIn wsL_meet (wsV RL 53 RX7 yX7_meet wsX7_meet) := goodIn_app (goodIn_of _ (by decide +kernel)) ggL_meet_X7_meet
theorem dL_meet_0 : decode cL_meet 0 = .ok (.aload 4, 2) := by decide +kernel
theorem dL_meet_2 : decode cL_meet 2 = .ok (.iconst 0, 1) := by decide +kernel
theorem dL_meet_3 : decode cL_meet 3 = .ok (.aload_n 0, 1) := by decide +kernel
theorem dL_meet_4 : decode cL_meet 4 = .ok (.iload_n 1, 1) := by decide +kernel
theorem dL_meet_5 : decode cL_meet 5 = .ok (.iload_n 2, 1) := by decide +kernel
theorem dL_meet_6 : decode cL_meet 6 = .ok (.iload_n 3, 1) := by decide +kernel
theorem dL_meet_7 : decode cL_meet 7 = .ok (.invokevirtual 53, 3) := by decide +kernel
theorem dL_meet_10 : decode cL_meet 10 = .ok (.i2l, 1) := by decide +kernel
theorem dL_meet_11 : decode cL_meet 11 = .ok (.lastore, 1) := by decide +kernel
theorem dL_meet_12 : decode cL_meet 12 = .ok (.goto 11, 3) := by decide +kernel
theorem dL_meet_15 : decode cL_meet 15 = .ok (.astore 5, 2) := by decide +kernel
theorem dL_meet_17 : decode cL_meet 17 = .ok (.iconst 1, 1) := by decide +kernel
theorem dL_meet_18 : decode cL_meet 18 = .ok (.ireturn, 1) := by decide +kernel
theorem dL_meet_19 : decode cL_meet 19 = .ok (.astore 5, 2) := by decide +kernel
theorem dL_meet_21 : decode cL_meet 21 = .ok (.iconst 2, 1) := by decide +kernel
theorem dL_meet_22 : decode cL_meet 22 = .ok (.ireturn, 1) := by decide +kernel
theorem dL_meet_23 : decode cL_meet 23 = .ok (.iconst 0, 1) := by decide +kernel
theorem dL_meet_24 : decode cL_meet 24 = .ok (.ireturn, 1) := by decide +kernel
set_option maxRecDepth 20000 in
theorem ggL_rule_X7_rule : GoodIn wsL_rule wsX7_rule := goodIn_ca (goodIn_ca (goodIn_r _ [7, 8, 9, 10, 11, 12, 6, 13, 14, 15, 16, 17, 18, 19, 20, 21, 22, 23, 24, 25, 26, 27, 28, 29, 30, 31, 32, 33, 34, 35, 36, 37, 38, 39, 40, 41, 42, 43, 44, 45, 46, 47, 48, 49, 50, 51, 52, 53, 54, 55, 56, 57, 58, 59, 60, 61, 62, 63, 64, 65, 66, 67, 68, 69, 70, 71, 72, 73, 74, 75, 76, 77, 78, 79, 80, 81, 82, 83, 84, 85, 86, 87, 88, 89, 90, 91, 92, 93, 94, 95, 96, 97, 98, 99, 100, 101, 102, 103, 104, 105, 106, 107, 108, 109, 110, 111, 112, 113, 114, 115, 116, 117, 118, 119, 120, 121, 122, 123, 124, 125, 126, 127, 128, 129, 130, 131, 132, 133, 134, 135, 136, 137, 138, 139, 140, 141, 142, 143, 144, 145, 146, 147, 148, 149, 150, 151, 152, 153, 154, 155, 156, 157, 158, 159, 160, 161, 162, 163, 164, 165, 166, 167, 168, 169, 170, 171, 172, 173, 174] (by exact rfl) (by decide +kernel)) (goodIn_sub (fun _ h => List.mem_cons_of_mem _ (List.mem_append_left _ (List.mem_append_right _ h))) (by decide +kernel))) (goodIn_sub (fun _ h => List.mem_cons_of_mem _ (List.mem_append_right _ h)) (by decide +kernel))
set_option maxRecDepth 20000 in
theorem gL_rule_X7_rule : GoodIn wsL_rule (wsV RL 57 RX7 yX7_rule wsX7_rule) := goodIn_app (goodIn_of _ (by decide +kernel)) ggL_rule_X7_rule
theorem dL_rule_0 : decode cL_rule 0 = .ok (.aload 6, 2) := by decide +kernel
theorem dL_rule_2 : decode cL_rule 2 = .ok (.iconst 0, 1) := by decide +kernel
theorem dL_rule_3 : decode cL_rule 3 = .ok (.aload_n 0, 1) := by decide +kernel
theorem dL_rule_4 : decode cL_rule 4 = .ok (.iload_n 1, 1) := by decide +kernel
theorem dL_rule_5 : decode cL_rule 5 = .ok (.iload_n 2, 1) := by decide +kernel
theorem dL_rule_6 : decode cL_rule 6 = .ok (.iload_n 3, 1) := by decide +kernel
theorem dL_rule_7 : decode cL_rule 7 = .ok (.iload 4, 2) := by decide +kernel
theorem dL_rule_9 : decode cL_rule 9 = .ok (.iload 5, 2) := by decide +kernel
theorem dL_rule_11 : decode cL_rule 11 = .ok (.invokevirtual 57, 3) := by decide +kernel
theorem dL_rule_14 : decode cL_rule 14 = .ok (.i2l, 1) := by decide +kernel
theorem dL_rule_15 : decode cL_rule 15 = .ok (.lastore, 1) := by decide +kernel
theorem dL_rule_16 : decode cL_rule 16 = .ok (.goto 11, 3) := by decide +kernel
theorem dL_rule_19 : decode cL_rule 19 = .ok (.astore 7, 2) := by decide +kernel
theorem dL_rule_21 : decode cL_rule 21 = .ok (.iconst 1, 1) := by decide +kernel
theorem dL_rule_22 : decode cL_rule 22 = .ok (.ireturn, 1) := by decide +kernel
theorem dL_rule_23 : decode cL_rule 23 = .ok (.astore 7, 2) := by decide +kernel
theorem dL_rule_25 : decode cL_rule 25 = .ok (.iconst 2, 1) := by decide +kernel
theorem dL_rule_26 : decode cL_rule 26 = .ok (.ireturn, 1) := by decide +kernel
theorem dL_rule_27 : decode cL_rule 27 = .ok (.iconst 0, 1) := by decide +kernel
theorem dL_rule_28 : decode cL_rule 28 = .ok (.ireturn, 1) := by decide +kernel
set_option maxRecDepth 20000 in
theorem ggL_size_X7_size : GoodIn wsL_size wsX7_size := goodIn_ca (goodIn_r _ [6, 7, 8, 9, 10, 11, 12, 13, 5, 14, 15, 16, 17, 18, 19, 20, 21, 22, 23, 24, 25, 26, 27, 28, 29, 30, 31] (by exact rfl) (by decide +kernel)) (goodIn_sub (fun _ h => List.mem_cons_of_mem _ (List.mem_append_right _ h)) (by decide +kernel))
set_option maxRecDepth 20000 in
theorem gL_size_X7_size : GoodIn wsL_size (wsV RL 61 RX7 yX7_size wsX7_size) := goodIn_app (goodIn_of _ (by decide +kernel)) ggL_size_X7_size
theorem dL_size_0 : decode cL_size 0 = .ok (.aload_n 2, 1) := by decide +kernel
theorem dL_size_1 : decode cL_size 1 = .ok (.iconst 0, 1) := by decide +kernel
theorem dL_size_2 : decode cL_size 2 = .ok (.aload_n 0, 1) := by decide +kernel
theorem dL_size_3 : decode cL_size 3 = .ok (.iload_n 1, 1) := by decide +kernel
theorem dL_size_4 : decode cL_size 4 = .ok (.invokevirtual 61, 3) := by decide +kernel
theorem dL_size_7 : decode cL_size 7 = .ok (.i2l, 1) := by decide +kernel
theorem dL_size_8 : decode cL_size 8 = .ok (.lastore, 1) := by decide +kernel
theorem dL_size_9 : decode cL_size 9 = .ok (.goto 6, 3) := by decide +kernel
theorem dL_size_12 : decode cL_size 12 = .ok (.astore_n 3, 1) := by decide +kernel
theorem dL_size_13 : decode cL_size 13 = .ok (.iconst 1, 1) := by decide +kernel
theorem dL_size_14 : decode cL_size 14 = .ok (.ireturn, 1) := by decide +kernel
theorem dL_size_15 : decode cL_size 15 = .ok (.iconst 0, 1) := by decide +kernel
theorem dL_size_16 : decode cL_size 16 = .ok (.ireturn, 1) := by decide +kernel
set_option maxRecDepth 20000 in
theorem ggL_isEnd_X7_isEnd : GoodIn wsL_isEnd wsX7_isEnd := goodIn_ca (goodIn_r _ [6, 7, 8, 9, 10, 11, 12, 13, 14, 5, 15, 16, 17, 18, 19, 20, 21, 22, 23, 24, 25, 26, 27, 28, 29, 30] (by exact rfl) (by decide +kernel)) (goodIn_sub (fun _ h => List.mem_cons_of_mem _ (List.mem_append_right _ h)) (by decide +kernel))
set_option maxRecDepth 20000 in
theorem gL_isEnd_X7_isEnd : GoodIn wsL_isEnd (wsV RL 64 RX7 yX7_isEnd wsX7_isEnd) := goodIn_app (goodIn_of _ (by decide +kernel)) ggL_isEnd_X7_isEnd
theorem dL_isEnd_0 : decode cL_isEnd 0 = .ok (.aload_n 3, 1) := by decide +kernel
theorem dL_isEnd_1 : decode cL_isEnd 1 = .ok (.iconst 0, 1) := by decide +kernel
theorem dL_isEnd_2 : decode cL_isEnd 2 = .ok (.aload_n 0, 1) := by decide +kernel
theorem dL_isEnd_3 : decode cL_isEnd 3 = .ok (.iload_n 1, 1) := by decide +kernel
theorem dL_isEnd_4 : decode cL_isEnd 4 = .ok (.iload_n 2, 1) := by decide +kernel
theorem dL_isEnd_5 : decode cL_isEnd 5 = .ok (.invokevirtual 64, 3) := by decide +kernel
theorem dL_isEnd_8 : decode cL_isEnd 8 = .ok (.ifCond .eq 7, 3) := by decide +kernel
theorem dL_isEnd_11 : decode cL_isEnd 11 = .ok (.lconst 1, 1) := by decide +kernel
theorem dL_isEnd_12 : decode cL_isEnd 12 = .ok (.goto 4, 3) := by decide +kernel
theorem dL_isEnd_15 : decode cL_isEnd 15 = .ok (.lconst 0, 1) := by decide +kernel
theorem dL_isEnd_16 : decode cL_isEnd 16 = .ok (.lastore, 1) := by decide +kernel
theorem dL_isEnd_17 : decode cL_isEnd 17 = .ok (.goto 7, 3) := by decide +kernel
theorem dL_isEnd_20 : decode cL_isEnd 20 = .ok (.astore 4, 2) := by decide +kernel
theorem dL_isEnd_22 : decode cL_isEnd 22 = .ok (.iconst 1, 1) := by decide +kernel
theorem dL_isEnd_23 : decode cL_isEnd 23 = .ok (.ireturn, 1) := by decide +kernel
theorem dL_isEnd_24 : decode cL_isEnd 24 = .ok (.iconst 0, 1) := by decide +kernel
theorem dL_isEnd_25 : decode cL_isEnd 25 = .ok (.ireturn, 1) := by decide +kernel
set_option maxRecDepth 20000 in
theorem ggL_arc_X7_arc : GoodIn wsL_arc wsX7_arc := goodIn_ca (goodIn_ca (goodIn_r _ [7, 8, 9, 10, 11, 12, 13, 14, 15, 16, 17, 18, 19, 6, 20, 21, 22, 23, 24, 25, 26, 27, 28, 29, 30, 31, 32, 33, 34, 35, 36, 37, 38, 39, 40, 41, 42, 43, 44, 45, 46, 47] (by exact rfl) (by decide +kernel)) (goodIn_sub (fun _ h => List.mem_cons_of_mem _ (List.mem_append_left _ (List.mem_append_right _ h))) (by decide +kernel))) (goodIn_sub (fun _ h => List.mem_cons_of_mem _ (List.mem_append_right _ h)) (by decide +kernel))
set_option maxRecDepth 20000 in
theorem gL_arc_X7_arc : GoodIn wsL_arc (wsV RL 68 RX7 yX7_arc wsX7_arc) := goodIn_app (goodIn_of _ (by decide +kernel)) ggL_arc_X7_arc
theorem dL_arc_0 : decode cL_arc 0 = .ok (.aload 4, 2) := by decide +kernel
theorem dL_arc_2 : decode cL_arc 2 = .ok (.iconst 0, 1) := by decide +kernel
theorem dL_arc_3 : decode cL_arc 3 = .ok (.aload_n 0, 1) := by decide +kernel
theorem dL_arc_4 : decode cL_arc 4 = .ok (.iload_n 1, 1) := by decide +kernel
theorem dL_arc_5 : decode cL_arc 5 = .ok (.iload_n 2, 1) := by decide +kernel
theorem dL_arc_6 : decode cL_arc 6 = .ok (.iload_n 3, 1) := by decide +kernel
theorem dL_arc_7 : decode cL_arc 7 = .ok (.invokevirtual 68, 3) := by decide +kernel
theorem dL_arc_10 : decode cL_arc 10 = .ok (.i2l, 1) := by decide +kernel
theorem dL_arc_11 : decode cL_arc 11 = .ok (.lastore, 1) := by decide +kernel
theorem dL_arc_12 : decode cL_arc 12 = .ok (.goto 11, 3) := by decide +kernel
theorem dL_arc_15 : decode cL_arc 15 = .ok (.astore 5, 2) := by decide +kernel
theorem dL_arc_17 : decode cL_arc 17 = .ok (.iconst 1, 1) := by decide +kernel
theorem dL_arc_18 : decode cL_arc 18 = .ok (.ireturn, 1) := by decide +kernel
theorem dL_arc_19 : decode cL_arc 19 = .ok (.astore 5, 2) := by decide +kernel
theorem dL_arc_21 : decode cL_arc 21 = .ok (.iconst 2, 1) := by decide +kernel
theorem dL_arc_22 : decode cL_arc 22 = .ok (.ireturn, 1) := by decide +kernel
theorem dL_arc_23 : decode cL_arc 23 = .ok (.iconst 0, 1) := by decide +kernel
theorem dL_arc_24 : decode cL_arc 24 = .ok (.ireturn, 1) := by decide +kernel
set_option maxRecDepth 20000 in
theorem ggL_isPlain_X7_isPlain : GoodIn wsL_isPlain wsX7_isPlain := goodIn_ca (goodIn_r _ [6, 7, 8, 9, 10, 5, 11, 12, 13, 14, 15, 16, 17, 18, 19, 20, 21, 22, 23, 24, 25, 26, 27, 28, 29, 30, 31, 32, 33, 34, 35, 36, 37, 38, 39, 40, 41] (by exact rfl) (by decide +kernel)) (goodIn_sub (fun _ h => List.mem_cons_of_mem _ (List.mem_append_right _ h)) (by decide +kernel))
set_option maxRecDepth 20000 in
theorem gL_isPlain_X7_isPlain : GoodIn wsL_isPlain (wsV RL 71 RX7 yX7_isPlain wsX7_isPlain) := goodIn_app (goodIn_of _ (by decide +kernel)) ggL_isPlain_X7_isPlain
theorem dL_isPlain_0 : decode cL_isPlain 0 = .ok (.aload_n 2, 1) := by decide +kernel
theorem dL_isPlain_1 : decode cL_isPlain 1 = .ok (.iconst 0, 1) := by decide +kernel
theorem dL_isPlain_2 : decode cL_isPlain 2 = .ok (.aload_n 0, 1) := by decide +kernel
theorem dL_isPlain_3 : decode cL_isPlain 3 = .ok (.iload_n 1, 1) := by decide +kernel
theorem dL_isPlain_4 : decode cL_isPlain 4 = .ok (.invokevirtual 71, 3) := by decide +kernel
theorem dL_isPlain_7 : decode cL_isPlain 7 = .ok (.ifCond .eq 7, 3) := by decide +kernel
theorem dL_isPlain_10 : decode cL_isPlain 10 = .ok (.lconst 1, 1) := by decide +kernel
theorem dL_isPlain_11 : decode cL_isPlain 11 = .ok (.goto 4, 3) := by decide +kernel
theorem dL_isPlain_14 : decode cL_isPlain 14 = .ok (.lconst 0, 1) := by decide +kernel
theorem dL_isPlain_15 : decode cL_isPlain 15 = .ok (.lastore, 1) := by decide +kernel
theorem dL_isPlain_16 : decode cL_isPlain 16 = .ok (.goto 6, 3) := by decide +kernel
theorem dL_isPlain_19 : decode cL_isPlain 19 = .ok (.astore_n 3, 1) := by decide +kernel
theorem dL_isPlain_20 : decode cL_isPlain 20 = .ok (.iconst 1, 1) := by decide +kernel
theorem dL_isPlain_21 : decode cL_isPlain 21 = .ok (.ireturn, 1) := by decide +kernel
theorem dL_isPlain_22 : decode cL_isPlain 22 = .ok (.iconst 0, 1) := by decide +kernel
theorem dL_isPlain_23 : decode cL_isPlain 23 = .ok (.ireturn, 1) := by decide +kernel
set_option maxRecDepth 20000 in
theorem ggL_answer_X7_answer : GoodIn wsL_answer wsX7_answer := goodIn_ca (goodIn_ca (goodIn_r _ [7, 8, 9, 10, 11, 12, 13, 6, 14, 15, 16, 17, 18, 19, 20, 21, 22, 23, 24, 25, 26, 27, 28, 29, 30, 31, 32, 33, 34, 35, 36, 37, 38, 39, 40, 41, 42, 43, 44, 45, 46, 47, 48, 49, 50, 51, 52, 53, 54, 55, 56, 57, 58, 59, 60, 61, 62, 63, 64, 65, 66, 67, 68, 69, 70, 71, 72, 73, 74, 75, 76, 77, 78, 79, 80, 81, 82, 83, 84, 85, 86, 87, 88, 89, 90, 91, 92, 93, 94, 95, 96, 97, 98, 99, 100, 101, 102, 103, 104, 105, 106, 107, 108, 109, 110, 111, 112, 113, 114, 115, 116, 117, 118, 119, 120, 121, 122, 123, 124, 125, 126, 127, 128, 129, 130, 131, 132, 133, 134, 135, 136, 137, 138, 139, 140, 141, 142, 143, 144, 145, 146, 147, 148, 149, 150, 151, 152, 153, 154, 155, 156, 157, 158, 159, 160, 161, 162, 163, 164, 165, 166, 167, 168, 169, 170, 171, 172, 173, 174, 175, 176, 177, 178, 179, 180, 181] (by exact rfl) (by decide +kernel)) (goodIn_sub (fun _ h => List.mem_cons_of_mem _ (List.mem_append_left _ (List.mem_append_right _ h))) (by decide +kernel))) (goodIn_sub (fun _ h => List.mem_cons_of_mem _ (List.mem_append_right _ h)) (by decide +kernel))
set_option maxRecDepth 20000 in
theorem gL_answer_X7_answer : GoodIn wsL_answer (wsV RL 75 RX7 yX7_answer wsX7_answer) := goodIn_app (goodIn_of _ (by decide +kernel)) ggL_answer_X7_answer
theorem dL_answer_0 : decode cL_answer 0 = .ok (.aload 5, 2) := by decide +kernel
theorem dL_answer_2 : decode cL_answer 2 = .ok (.iconst 0, 1) := by decide +kernel
theorem dL_answer_3 : decode cL_answer 3 = .ok (.aload_n 0, 1) := by decide +kernel
theorem dL_answer_4 : decode cL_answer 4 = .ok (.iload_n 1, 1) := by decide +kernel
theorem dL_answer_5 : decode cL_answer 5 = .ok (.iload_n 2, 1) := by decide +kernel
theorem dL_answer_6 : decode cL_answer 6 = .ok (.iload_n 3, 1) := by decide +kernel
theorem dL_answer_7 : decode cL_answer 7 = .ok (.iload 4, 2) := by decide +kernel
theorem dL_answer_9 : decode cL_answer 9 = .ok (.invokevirtual 75, 3) := by decide +kernel
theorem dL_answer_12 : decode cL_answer 12 = .ok (.i2l, 1) := by decide +kernel
theorem dL_answer_13 : decode cL_answer 13 = .ok (.lastore, 1) := by decide +kernel
theorem dL_answer_14 : decode cL_answer 14 = .ok (.goto 11, 3) := by decide +kernel
theorem dL_answer_17 : decode cL_answer 17 = .ok (.astore 6, 2) := by decide +kernel
theorem dL_answer_19 : decode cL_answer 19 = .ok (.iconst 1, 1) := by decide +kernel
theorem dL_answer_20 : decode cL_answer 20 = .ok (.ireturn, 1) := by decide +kernel
theorem dL_answer_21 : decode cL_answer 21 = .ok (.astore 6, 2) := by decide +kernel
theorem dL_answer_23 : decode cL_answer 23 = .ok (.iconst 2, 1) := by decide +kernel
theorem dL_answer_24 : decode cL_answer 24 = .ok (.ireturn, 1) := by decide +kernel
theorem dL_answer_25 : decode cL_answer 25 = .ok (.iconst 0, 1) := by decide +kernel
theorem dL_answer_26 : decode cL_answer 26 = .ok (.ireturn, 1) := by decide +kernel
set_option maxRecDepth 20000 in
theorem ggL_answers_X7_answers : GoodIn wsL_answers wsX7_answers := goodIn_ca (goodIn_r _ [6, 7, 8, 9, 10, 5, 11, 12, 13, 14, 15, 16, 17, 18, 19, 20, 21, 22, 23, 24, 25, 26, 27, 28, 29, 30, 31, 32, 33, 34, 35, 36, 37, 38, 39, 40, 41, 42, 43, 44, 45, 46, 47, 48, 49, 50, 51, 52, 53, 54, 55, 56, 57, 58, 59, 60, 61, 62, 63, 64, 65, 66, 67, 68, 69, 70, 71, 72, 73, 74, 75, 76, 77, 78, 79, 80, 81, 82, 83, 84, 85, 86, 87, 88, 89, 90, 91, 92, 93, 94, 95, 96, 97, 98, 99, 100, 101, 102, 103, 104, 105, 106, 107, 108, 109, 110, 111, 112, 113, 114, 115, 116, 117, 118, 119, 120, 121, 122, 123, 124, 125, 126, 127, 128, 129, 130, 131, 132, 133, 134, 135, 136, 137, 138, 139, 140, 141, 142, 143, 144, 145, 146, 147, 148, 149, 150, 151, 152, 153, 154, 155, 156, 157, 158, 159, 160, 161, 162, 163, 164, 165, 166, 167, 168, 169, 170, 171] (by exact rfl) (by decide +kernel)) (goodIn_sub (fun _ h => List.mem_cons_of_mem _ (List.mem_append_right _ h)) (by decide +kernel))
set_option maxRecDepth 20000 in
theorem gL_answers_X7_answers : GoodIn wsL_answers (wsV RL 79 RX7 yX7_answers wsX7_answers) := goodIn_app (goodIn_of _ (by decide +kernel)) ggL_answers_X7_answers
theorem dL_answers_0 : decode cL_answers 0 = .ok (.aload_n 3, 1) := by decide +kernel
theorem dL_answers_1 : decode cL_answers 1 = .ok (.iconst 0, 1) := by decide +kernel
theorem dL_answers_2 : decode cL_answers 2 = .ok (.aload_n 0, 1) := by decide +kernel
theorem dL_answers_3 : decode cL_answers 3 = .ok (.iload_n 1, 1) := by decide +kernel
theorem dL_answers_4 : decode cL_answers 4 = .ok (.iload_n 2, 1) := by decide +kernel
theorem dL_answers_5 : decode cL_answers 5 = .ok (.invokevirtual 79, 3) := by decide +kernel
theorem dL_answers_8 : decode cL_answers 8 = .ok (.i2l, 1) := by decide +kernel
theorem dL_answers_9 : decode cL_answers 9 = .ok (.lastore, 1) := by decide +kernel
theorem dL_answers_10 : decode cL_answers 10 = .ok (.goto 7, 3) := by decide +kernel
theorem dL_answers_13 : decode cL_answers 13 = .ok (.astore 4, 2) := by decide +kernel
theorem dL_answers_15 : decode cL_answers 15 = .ok (.iconst 1, 1) := by decide +kernel
theorem dL_answers_16 : decode cL_answers 16 = .ok (.ireturn, 1) := by decide +kernel
theorem dL_answers_17 : decode cL_answers 17 = .ok (.iconst 0, 1) := by decide +kernel
theorem dL_answers_18 : decode cL_answers 18 = .ok (.ireturn, 1) := by decide +kernel
set_option maxRecDepth 20000 in
theorem ggL_cost_X7_cost : GoodIn wsL_cost wsX7_cost := goodIn_ca (goodIn_r _ [6, 7, 8, 9, 10, 5, 11, 12, 13, 14, 15, 16, 17, 18, 19, 20, 21, 22, 23, 24, 25, 26, 27, 28, 29, 30, 31, 32, 33, 34, 35, 36, 37, 38, 39, 40, 41, 42, 43, 44, 45, 46, 47, 48, 49, 50, 51, 52, 53, 54, 55, 56, 57, 58, 59, 60, 61, 62, 63, 64, 65, 66, 67, 68, 69, 70, 71, 72, 73, 74, 75, 76, 77, 78, 79, 80, 81, 82, 83, 84, 85, 86, 87, 88, 89, 90, 91, 92, 93, 94, 95, 96, 97, 98, 99, 100, 101, 102, 103, 104, 105, 106, 107, 108, 109, 110, 111, 112, 113, 114, 115, 116, 117, 118, 119, 120, 121, 122, 123, 124, 125, 126, 127, 128] (by exact rfl) (by decide +kernel)) (goodIn_sub (fun _ h => List.mem_cons_of_mem _ (List.mem_append_right _ h)) (by decide +kernel))
set_option maxRecDepth 20000 in
theorem gL_cost_X7_cost : GoodIn wsL_cost (wsV RL 82 RX7 yX7_cost wsX7_cost) := goodIn_app (goodIn_of _ (by decide +kernel)) ggL_cost_X7_cost
theorem dL_cost_0 : decode cL_cost 0 = .ok (.aload_n 3, 1) := by decide +kernel
theorem dL_cost_1 : decode cL_cost 1 = .ok (.iconst 0, 1) := by decide +kernel
theorem dL_cost_2 : decode cL_cost 2 = .ok (.aload_n 0, 1) := by decide +kernel
theorem dL_cost_3 : decode cL_cost 3 = .ok (.iload_n 1, 1) := by decide +kernel
theorem dL_cost_4 : decode cL_cost 4 = .ok (.iload_n 2, 1) := by decide +kernel
theorem dL_cost_5 : decode cL_cost 5 = .ok (.invokevirtual 82, 3) := by decide +kernel
theorem dL_cost_8 : decode cL_cost 8 = .ok (.i2l, 1) := by decide +kernel
theorem dL_cost_9 : decode cL_cost 9 = .ok (.lastore, 1) := by decide +kernel
theorem dL_cost_10 : decode cL_cost 10 = .ok (.goto 7, 3) := by decide +kernel
theorem dL_cost_13 : decode cL_cost 13 = .ok (.astore 4, 2) := by decide +kernel
theorem dL_cost_15 : decode cL_cost 15 = .ok (.iconst 1, 1) := by decide +kernel
theorem dL_cost_16 : decode cL_cost 16 = .ok (.ireturn, 1) := by decide +kernel
theorem dL_cost_17 : decode cL_cost 17 = .ok (.iconst 0, 1) := by decide +kernel
theorem dL_cost_18 : decode cL_cost 18 = .ok (.ireturn, 1) := by decide +kernel
set_option maxRecDepth 20000 in
theorem ggL_best_X7_best : GoodIn wsL_best wsX7_best := goodIn_ca (goodIn_r _ [6, 7, 8, 9, 10, 5, 11, 12, 13, 14, 15, 16, 17, 18, 19, 20, 21, 22, 23, 24, 25, 26, 27, 28, 29, 30, 31, 32, 33, 34, 35, 36, 37, 38, 39, 40, 41, 42, 43, 44, 45, 46, 47, 48, 49, 50, 51, 52, 53, 54, 55, 56, 57, 58, 59, 60, 61, 62, 63, 64, 65, 66, 67, 68, 69, 70, 71, 72, 73, 74, 75, 76, 77, 78, 79, 80, 81, 82, 83, 84, 85, 86, 87, 88, 89, 90, 91, 92, 93, 94, 95, 96, 97, 98, 99, 100, 101, 102, 103, 104, 105, 106, 107, 108, 109, 110, 111, 112, 113, 114, 115, 116, 117, 118, 119, 120, 121, 122, 123, 124, 125, 126, 127, 128, 129, 130, 131, 132, 133, 134, 135, 136, 137, 138, 139, 140, 141, 142, 143, 144, 145, 146, 147, 148, 149, 150, 151, 152, 153, 154, 155, 156, 157, 158, 159, 160, 161, 162, 163, 164, 165, 166, 167, 168, 169, 170, 171, 172, 173, 174, 175, 176, 177, 178] (by exact rfl) (by decide +kernel)) (goodIn_sub (fun _ h => List.mem_cons_of_mem _ (List.mem_append_right _ h)) (by decide +kernel))
set_option maxRecDepth 20000 in
theorem gL_best_X7_best : GoodIn wsL_best (wsV RL 85 RX7 yX7_best wsX7_best) := goodIn_app (goodIn_of _ (by decide +kernel)) ggL_best_X7_best
theorem dL_best_0 : decode cL_best 0 = .ok (.aload 4, 2) := by decide +kernel
theorem dL_best_2 : decode cL_best 2 = .ok (.iconst 0, 1) := by decide +kernel
theorem dL_best_3 : decode cL_best 3 = .ok (.aload_n 0, 1) := by decide +kernel
theorem dL_best_4 : decode cL_best 4 = .ok (.iload_n 1, 1) := by decide +kernel
theorem dL_best_5 : decode cL_best 5 = .ok (.iload_n 2, 1) := by decide +kernel
theorem dL_best_6 : decode cL_best 6 = .ok (.iload_n 3, 1) := by decide +kernel
theorem dL_best_7 : decode cL_best 7 = .ok (.invokevirtual 85, 3) := by decide +kernel
theorem dL_best_10 : decode cL_best 10 = .ok (.i2l, 1) := by decide +kernel
theorem dL_best_11 : decode cL_best 11 = .ok (.lastore, 1) := by decide +kernel
theorem dL_best_12 : decode cL_best 12 = .ok (.goto 7, 3) := by decide +kernel
theorem dL_best_15 : decode cL_best 15 = .ok (.astore 5, 2) := by decide +kernel
theorem dL_best_17 : decode cL_best 17 = .ok (.iconst 1, 1) := by decide +kernel
theorem dL_best_18 : decode cL_best 18 = .ok (.ireturn, 1) := by decide +kernel
theorem dL_best_19 : decode cL_best 19 = .ok (.iconst 0, 1) := by decide +kernel
theorem dL_best_20 : decode cL_best 20 = .ok (.ireturn, 1) := by decide +kernel
set_option maxRecDepth 20000 in
theorem ggL_changes_X7_changes : GoodIn wsL_changes wsX7_changes := goodIn_ca (goodIn_r _ [6, 7, 8, 9, 10, 11, 12, 13, 5, 14, 15, 16, 17, 18, 19, 20, 21, 22, 23, 24, 25, 26, 27, 28, 29, 30, 31, 32, 33, 34, 35, 36, 37, 38, 39, 40, 41, 42, 43, 44, 45, 46, 47, 48, 49, 50, 51, 52, 53, 54, 55, 56, 57, 58, 59, 60, 61, 62, 63, 64, 65, 66, 67, 68, 69, 70, 71, 72, 73, 74, 75, 76, 77, 78, 79, 80, 81, 82, 83, 84, 85, 86, 87, 88, 89, 90, 91, 92, 93, 94, 95, 96, 97, 98, 99, 100, 101, 102, 103, 104, 105, 106, 107, 108, 109, 110, 111, 112, 113, 114, 115, 116, 117, 118, 119, 120, 121, 122, 123, 124] (by exact rfl) (by decide +kernel)) (goodIn_sub (fun _ h => List.mem_cons_of_mem _ (List.mem_append_right _ h)) (by decide +kernel))
set_option maxRecDepth 20000 in
theorem gL_changes_X7_changes : GoodIn wsL_changes (wsV RL 89 RX7 yX7_changes wsX7_changes) := goodIn_app (goodIn_of _ (by decide +kernel)) ggL_changes_X7_changes
theorem dL_changes_0 : decode cL_changes 0 = .ok (.aload_n 2, 1) := by decide +kernel
theorem dL_changes_1 : decode cL_changes 1 = .ok (.iconst 0, 1) := by decide +kernel
theorem dL_changes_2 : decode cL_changes 2 = .ok (.aload_n 0, 1) := by decide +kernel
theorem dL_changes_3 : decode cL_changes 3 = .ok (.iload_n 1, 1) := by decide +kernel
theorem dL_changes_4 : decode cL_changes 4 = .ok (.invokevirtual 89, 3) := by decide +kernel
theorem dL_changes_7 : decode cL_changes 7 = .ok (.i2l, 1) := by decide +kernel
theorem dL_changes_8 : decode cL_changes 8 = .ok (.lastore, 1) := by decide +kernel
theorem dL_changes_9 : decode cL_changes 9 = .ok (.goto 6, 3) := by decide +kernel
theorem dL_changes_12 : decode cL_changes 12 = .ok (.astore_n 3, 1) := by decide +kernel
theorem dL_changes_13 : decode cL_changes 13 = .ok (.iconst 1, 1) := by decide +kernel
theorem dL_changes_14 : decode cL_changes 14 = .ok (.ireturn, 1) := by decide +kernel
theorem dL_changes_15 : decode cL_changes 15 = .ok (.iconst 0, 1) := by decide +kernel
theorem dL_changes_16 : decode cL_changes 16 = .ok (.ireturn, 1) := by decide +kernel
set_option maxRecDepth 20000 in
theorem ggL_mended_X7_mended : GoodIn wsL_mended wsX7_mended := goodIn_ca (goodIn_r _ [6, 7, 8, 9, 10, 11, 12, 13, 5, 14, 15, 16, 17, 18, 19, 20, 21, 22, 23, 24, 25, 26, 27, 28, 29, 30, 31, 32, 33, 34, 35, 36, 37, 38, 39, 40, 41, 42, 43, 44, 45, 46, 47, 48, 49, 50, 51, 52, 53, 54, 55, 56, 57, 58, 59, 60, 61, 62, 63, 64, 65, 66, 67, 68, 69, 70, 71, 72, 73, 74, 75, 76, 77, 78, 79, 80, 81, 82, 83, 84, 85, 86, 87, 88, 89, 90, 91, 92, 93, 94, 95, 96, 97, 98, 99, 100, 101, 102, 103, 104, 105, 106, 107, 108, 109, 110, 111, 112, 113, 114, 115, 116, 117, 118, 119, 120, 121, 122, 123, 124, 125, 126, 127, 128, 129, 130, 131, 132, 133, 134, 135, 136, 137, 138, 139, 140, 141, 142, 143, 144, 145, 146, 147, 148, 149, 150, 151, 152, 153, 154, 155, 156, 157, 158, 159, 160, 161, 162, 163, 164, 165, 166, 167, 168, 169, 170, 171, 172, 173, 174] (by exact rfl) (by decide +kernel)) (goodIn_sub (fun _ h => List.mem_cons_of_mem _ (List.mem_append_right _ h)) (by decide +kernel))
set_option maxRecDepth 20000 in
theorem gL_mended_X7_mended : GoodIn wsL_mended (wsV RL 92 RX7 yX7_mended wsX7_mended) := goodIn_app (goodIn_of _ (by decide +kernel)) ggL_mended_X7_mended
theorem dL_mended_0 : decode cL_mended 0 = .ok (.aload_n 3, 1) := by decide +kernel
theorem dL_mended_1 : decode cL_mended 1 = .ok (.iconst 0, 1) := by decide +kernel
theorem dL_mended_2 : decode cL_mended 2 = .ok (.aload_n 0, 1) := by decide +kernel
theorem dL_mended_3 : decode cL_mended 3 = .ok (.iload_n 1, 1) := by decide +kernel
theorem dL_mended_4 : decode cL_mended 4 = .ok (.iload_n 2, 1) := by decide +kernel
theorem dL_mended_5 : decode cL_mended 5 = .ok (.invokevirtual 92, 3) := by decide +kernel
theorem dL_mended_8 : decode cL_mended 8 = .ok (.i2l, 1) := by decide +kernel
theorem dL_mended_9 : decode cL_mended 9 = .ok (.lastore, 1) := by decide +kernel
theorem dL_mended_10 : decode cL_mended 10 = .ok (.goto 7, 3) := by decide +kernel
theorem dL_mended_13 : decode cL_mended 13 = .ok (.astore 4, 2) := by decide +kernel
theorem dL_mended_15 : decode cL_mended 15 = .ok (.iconst 1, 1) := by decide +kernel
theorem dL_mended_16 : decode cL_mended 16 = .ok (.ireturn, 1) := by decide +kernel
theorem dL_mended_17 : decode cL_mended 17 = .ok (.iconst 0, 1) := by decide +kernel
theorem dL_mended_18 : decode cL_mended 18 = .ok (.ireturn, 1) := by decide +kernel
set_option maxRecDepth 20000 in
theorem ggL_apart_X7_apart : GoodIn wsL_apart wsX7_apart := goodIn_ca (goodIn_ca (goodIn_r _ [7, 8, 9, 10, 11, 12, 6, 13, 14, 15, 16, 17, 18, 19, 20, 21, 22, 23, 24, 25, 26, 27, 28, 29, 30, 31, 32, 33, 34, 35, 36, 37, 38, 39, 40, 41, 42, 43, 44, 45, 46, 47, 48, 49, 50, 51, 52, 53, 54, 55, 56, 57, 58, 59, 60, 61, 62, 63, 64, 65, 66, 67, 68, 69, 70, 71, 72, 73, 74, 75, 76, 77, 78, 79, 80, 81, 82, 83, 84, 85, 86, 87, 88, 89, 90, 91, 92, 93, 94, 95, 96, 97, 98, 99, 100, 101, 102, 103, 104, 105, 106, 107, 108, 109, 110, 111, 112, 113, 114, 115, 116, 117, 118, 119, 120, 121, 122, 123, 124, 125, 126, 127, 128, 129, 130, 131, 132, 133, 134, 135, 136, 137, 138, 139, 140, 141, 142, 143, 144, 145, 146, 147, 148, 149, 150, 151, 152, 153, 154] (by exact rfl) (by decide +kernel)) (goodIn_sub (fun _ h => List.mem_cons_of_mem _ (List.mem_append_left _ (List.mem_append_right _ h))) (by decide +kernel))) (goodIn_sub (fun _ h => List.mem_cons_of_mem _ (List.mem_append_right _ h)) (by decide +kernel))
set_option maxRecDepth 20000 in
theorem gL_apart_X7_apart : GoodIn wsL_apart (wsV RL 95 RX7 yX7_apart wsX7_apart) := goodIn_app (goodIn_of _ (by decide +kernel)) ggL_apart_X7_apart
theorem dL_apart_0 : decode cL_apart 0 = .ok (.aload 4, 2) := by decide +kernel
theorem dL_apart_2 : decode cL_apart 2 = .ok (.iconst 0, 1) := by decide +kernel
theorem dL_apart_3 : decode cL_apart 3 = .ok (.aload_n 0, 1) := by decide +kernel
theorem dL_apart_4 : decode cL_apart 4 = .ok (.iload_n 1, 1) := by decide +kernel
theorem dL_apart_5 : decode cL_apart 5 = .ok (.iload_n 2, 1) := by decide +kernel
theorem dL_apart_6 : decode cL_apart 6 = .ok (.iload_n 3, 1) := by decide +kernel
theorem dL_apart_7 : decode cL_apart 7 = .ok (.invokevirtual 95, 3) := by decide +kernel
theorem dL_apart_10 : decode cL_apart 10 = .ok (.i2l, 1) := by decide +kernel
theorem dL_apart_11 : decode cL_apart 11 = .ok (.lastore, 1) := by decide +kernel
theorem dL_apart_12 : decode cL_apart 12 = .ok (.goto 11, 3) := by decide +kernel
theorem dL_apart_15 : decode cL_apart 15 = .ok (.astore 5, 2) := by decide +kernel
theorem dL_apart_17 : decode cL_apart 17 = .ok (.iconst 1, 1) := by decide +kernel
theorem dL_apart_18 : decode cL_apart 18 = .ok (.ireturn, 1) := by decide +kernel
theorem dL_apart_19 : decode cL_apart 19 = .ok (.astore 5, 2) := by decide +kernel
theorem dL_apart_21 : decode cL_apart 21 = .ok (.iconst 2, 1) := by decide +kernel
theorem dL_apart_22 : decode cL_apart 22 = .ok (.ireturn, 1) := by decide +kernel
theorem dL_apart_23 : decode cL_apart 23 = .ok (.iconst 0, 1) := by decide +kernel
theorem dL_apart_24 : decode cL_apart 24 = .ok (.ireturn, 1) := by decide +kernel
set_option maxRecDepth 20000 in
theorem ggL_ruled_X7_ruled : GoodIn wsL_ruled wsX7_ruled := goodIn_ca (goodIn_ca (goodIn_r _ [7, 8, 9, 10, 11, 6, 12, 13, 14, 15, 16, 17, 18, 19, 20, 21, 22, 23, 24, 25, 26, 27, 28, 29, 30, 31, 32, 33, 34, 35, 36, 37, 38, 39, 40] (by exact rfl) (by decide +kernel)) (goodIn_sub (fun _ h => List.mem_cons_of_mem _ (List.mem_append_left _ (List.mem_append_right _ h))) (by decide +kernel))) (goodIn_sub (fun _ h => List.mem_cons_of_mem _ (List.mem_append_right _ h)) (by decide +kernel))
set_option maxRecDepth 20000 in
theorem gL_ruled_X7_ruled : GoodIn wsL_ruled (wsV RL 98 RX7 yX7_ruled wsX7_ruled) := goodIn_app (goodIn_of _ (by decide +kernel)) ggL_ruled_X7_ruled
theorem dL_ruled_0 : decode cL_ruled 0 = .ok (.aload 6, 2) := by decide +kernel
theorem dL_ruled_2 : decode cL_ruled 2 = .ok (.iconst 0, 1) := by decide +kernel
theorem dL_ruled_3 : decode cL_ruled 3 = .ok (.aload_n 0, 1) := by decide +kernel
theorem dL_ruled_4 : decode cL_ruled 4 = .ok (.iload_n 1, 1) := by decide +kernel
theorem dL_ruled_5 : decode cL_ruled 5 = .ok (.iload_n 2, 1) := by decide +kernel
theorem dL_ruled_6 : decode cL_ruled 6 = .ok (.iload_n 3, 1) := by decide +kernel
theorem dL_ruled_7 : decode cL_ruled 7 = .ok (.iload 4, 2) := by decide +kernel
theorem dL_ruled_9 : decode cL_ruled 9 = .ok (.iload 5, 2) := by decide +kernel
theorem dL_ruled_11 : decode cL_ruled 11 = .ok (.invokevirtual 98, 3) := by decide +kernel
theorem dL_ruled_14 : decode cL_ruled 14 = .ok (.i2l, 1) := by decide +kernel
theorem dL_ruled_15 : decode cL_ruled 15 = .ok (.lastore, 1) := by decide +kernel
theorem dL_ruled_16 : decode cL_ruled 16 = .ok (.goto 11, 3) := by decide +kernel
theorem dL_ruled_19 : decode cL_ruled 19 = .ok (.astore 7, 2) := by decide +kernel
theorem dL_ruled_21 : decode cL_ruled 21 = .ok (.iconst 1, 1) := by decide +kernel
theorem dL_ruled_22 : decode cL_ruled 22 = .ok (.ireturn, 1) := by decide +kernel
theorem dL_ruled_23 : decode cL_ruled 23 = .ok (.astore 7, 2) := by decide +kernel
theorem dL_ruled_25 : decode cL_ruled 25 = .ok (.iconst 2, 1) := by decide +kernel
theorem dL_ruled_26 : decode cL_ruled 26 = .ok (.ireturn, 1) := by decide +kernel
theorem dL_ruled_27 : decode cL_ruled 27 = .ok (.iconst 0, 1) := by decide +kernel
theorem dL_ruled_28 : decode cL_ruled 28 = .ok (.ireturn, 1) := by decide +kernel
set_option maxRecDepth 20000 in
theorem ggL_learn_X7_learn : GoodIn wsL_learn wsX7_learn := goodIn_ca (goodIn_ca (goodIn_r _ [7, 8, 9, 10, 11, 12, 13, 14, 15, 16, 17, 18, 19, 20, 21, 22, 23, 24, 25, 26, 27, 28, 29, 30, 31, 32, 33, 34, 35, 36, 37, 38, 39, 40, 41, 42] (by exact rfl) (by decide +kernel)) (goodIn_sub (fun _ h => List.mem_cons_of_mem _ (List.mem_append_left _ (List.mem_append_right _ h))) (by decide +kernel))) (goodIn_sub (fun _ h => List.mem_cons_of_mem _ (List.mem_append_right _ h)) (by decide +kernel))
set_option maxRecDepth 20000 in
theorem gL_learn_X7_learn : GoodIn wsL_learn (wsV RL 102 RX7 yX7_learn wsX7_learn) := goodIn_app (goodIn_of _ (by decide +kernel)) ggL_learn_X7_learn
theorem dL_learn_0 : decode cL_learn 0 = .ok (.aload_n 2, 1) := by decide +kernel
theorem dL_learn_1 : decode cL_learn 1 = .ok (.iconst 0, 1) := by decide +kernel
theorem dL_learn_2 : decode cL_learn 2 = .ok (.aload_n 0, 1) := by decide +kernel
theorem dL_learn_3 : decode cL_learn 3 = .ok (.iload_n 1, 1) := by decide +kernel
theorem dL_learn_4 : decode cL_learn 4 = .ok (.invokevirtual 102, 3) := by decide +kernel
theorem dL_learn_7 : decode cL_learn 7 = .ok (.i2l, 1) := by decide +kernel
theorem dL_learn_8 : decode cL_learn 8 = .ok (.lastore, 1) := by decide +kernel
theorem dL_learn_9 : decode cL_learn 9 = .ok (.goto 9, 3) := by decide +kernel
theorem dL_learn_12 : decode cL_learn 12 = .ok (.astore_n 3, 1) := by decide +kernel
theorem dL_learn_13 : decode cL_learn 13 = .ok (.iconst 1, 1) := by decide +kernel
theorem dL_learn_14 : decode cL_learn 14 = .ok (.ireturn, 1) := by decide +kernel
theorem dL_learn_15 : decode cL_learn 15 = .ok (.astore_n 3, 1) := by decide +kernel
theorem dL_learn_16 : decode cL_learn 16 = .ok (.iconst 2, 1) := by decide +kernel
theorem dL_learn_17 : decode cL_learn 17 = .ok (.ireturn, 1) := by decide +kernel
theorem dL_learn_18 : decode cL_learn 18 = .ok (.iconst 0, 1) := by decide +kernel
theorem dL_learn_19 : decode cL_learn 19 = .ok (.ireturn, 1) := by decide +kernel
set_option maxRecDepth 20000 in
theorem ggL_law_X7_init : GoodIn wsL_law wsX7_init := goodIn_r _ [9, 10, 11, 12, 13, 14, 15, 16, 17, 18, 19, 20, 21, 22, 23, 24, 25, 26, 27, 28, 29, 30, 31, 32, 33, 34, 35, 36, 37, 38, 39, 40, 41, 42, 43, 44, 45, 46, 47, 48, 49, 50, 51, 52, 53, 54, 55, 56, 57, 58, 59, 60, 61, 62, 63, 64, 65, 66, 67, 68, 69, 70, 71, 72, 73, 74, 75, 76, 77, 78, 79, 80, 81, 82, 83, 84, 85, 86, 87, 88, 89, 90, 91, 92, 93, 94, 95, 96, 97, 98, 99, 100, 101, 102, 103, 104, 105, 106, 107, 108, 109, 110, 111, 112, 113, 114, 115, 116, 117, 118, 119, 120, 121, 122, 1164, 1165, 1166, 1167, 1168, 1169, 1170, 1171, 1219, 1220, 1221, 1222, 1223, 1224, 1225, 1226, 1227, 1228, 1229, 1230, 1231, 1232, 1233, 1234, 1235, 1236, 1237, 1238, 1239, 1240, 1241, 1242, 1243, 1244, 1245, 1246, 1247, 1248, 1249, 1250, 1251, 1252, 1253, 1254, 1255, 1256, 1257, 1258, 1259, 1260, 1261, 1262, 1263, 1264, 1265, 1266, 1267, 1268, 1269, 1270, 1271, 1272, 1273, 1274] rfl (by decide +kernel)
set_option maxRecDepth 20000 in
theorem gL_law_X7_init : GoodIn wsL_law (wsX7_init) := ggL_law_X7_init
set_option maxRecDepth 20000 in
theorem ggL_law_X8_init : GoodIn wsL_law wsX8_init := goodIn_r _ [125, 126, 11, 12, 13, 127, 128, 129, 130, 131, 132, 133, 134, 135, 136, 137, 138, 57, 139, 140, 141, 142, 143, 144, 145, 146, 147, 148, 149, 150, 151, 152, 153, 154, 155, 156, 157, 158, 159, 160, 161, 162, 163, 164, 165, 1172, 1173, 1174, 1175, 1176, 1177, 1178, 1179, 1180, 1181, 1182, 1183, 1184, 1185, 1186, 1187, 1188, 1189, 1190, 1191, 1192, 1193, 1194, 1195, 1196, 1197, 1198, 1199, 1200, 1201, 1202, 1203, 1204, 1205, 1206, 1207, 1208, 1209, 1210, 1211, 1212, 1213, 1214, 1215, 1216, 1217, 1218] rfl (by decide +kernel)
set_option maxRecDepth 20000 in
theorem gL_law_X8_init : GoodIn wsL_law (wsX8_init) := ggL_law_X8_init
set_option maxRecDepth 20000 in
theorem ggL_law_L_type : GoodIn wsL_law wsL_type := goodIn_ca (goodIn_ca (goodIn_r _ [169, 170, 171, 172, 173, 174, 2, 175, 176, 177, 178, 179, 15, 14, 180, 181, 182, 1164, 1165, 1166, 1167, 1168, 1169, 1170, 1171] (by exact rfl) (by decide +kernel)) (goodIn_sub (fun _ h => List.mem_append_left _ (List.mem_append_left _ (List.mem_append_right _ h))) (by decide +kernel))) (goodIn_sub (fun _ h => List.mem_append_left _ (List.mem_append_right _ h)) (by decide +kernel))
set_option maxRecDepth 20000 in
theorem gL_law_L_type : GoodIn wsL_law (va_wsS RL 109 yL_type wsL_type) := goodIn_app (goodIn_of _ (by decide +kernel)) ggL_law_L_type
set_option maxRecDepth 20000 in
theorem ggL_law_X8_type : GoodIn wsL_law wsX8_type := goodIn_r _ [186, 187, 127, 188, 189, 5, 190, 191, 192, 193, 194, 195, 1172, 1173, 1174, 1175, 1176, 1177, 1178, 1179, 1180, 1181, 1182, 1183, 1184, 1185, 1186, 1187, 1188, 1189, 1190, 1191, 1192, 1193, 1194, 1195, 1196, 1197, 1198, 1199, 1200, 1201, 1202, 1203, 1204, 1205, 1206, 1207, 1208, 1209, 1210, 1211, 1212, 1213, 1214, 1215, 1216, 1217, 1218] rfl (by decide +kernel)
set_option maxRecDepth 20000 in
theorem gL_law_X8_type : GoodIn wsL_law (wsV RL 114 RX8 yX8_type wsX8_type) := goodIn_app (goodIn_of _ (by decide +kernel)) ggL_law_X8_type
set_option maxRecDepth 20000 in
theorem ggL_law_X8_thrown : GoodIn wsL_law wsX8_thrown := goodIn_r _ [199, 195, 1172, 1173, 1174, 1175, 1176, 1177, 1178, 1179, 1180, 1181, 1182, 1183, 1184, 1185, 1186, 1187, 1188, 1189, 1190, 1191, 1192, 1193, 1194, 1195, 1196, 1197, 1198, 1199, 1200, 1201, 1202, 1203, 1204, 1205, 1206, 1207, 1208, 1209, 1210, 1211, 1212, 1213, 1214, 1215, 1216, 1217, 1218] rfl (by decide +kernel)
set_option maxRecDepth 20000 in
theorem gL_law_X8_thrown : GoodIn wsL_law (wsV RL 115 RX8 yX8_thrown wsX8_thrown) := goodIn_app (goodIn_of _ (by decide +kernel)) ggL_law_X8_thrown
set_option maxRecDepth 20000 in
theorem ggL_law_X7_clear : GoodIn wsL_law wsX7_clear := goodIn_r _ [203, 15, 1164, 1165, 1166, 1167, 1168, 1169, 1170, 1171] rfl (by decide +kernel)
set_option maxRecDepth 20000 in
theorem gL_law_X7_clear : GoodIn wsL_law (wsV RL 118 RX7 yX7_clear wsX7_clear) := goodIn_app (goodIn_of _ (by decide +kernel)) ggL_law_X7_clear
set_option maxRecDepth 20000 in
theorem ggL_law_X8_clear : GoodIn wsL_law wsX8_clear := goodIn_r _ [207, 195, 187, 1172, 1173, 1174, 1175, 1176, 1177, 1178, 1179, 1180, 1181, 1182, 1183, 1184, 1185, 1186, 1187, 1188, 1189, 1190, 1191, 1192, 1193, 1194, 1195, 1196, 1197, 1198, 1199, 1200, 1201, 1202, 1203, 1204, 1205, 1206, 1207, 1208, 1209, 1210, 1211, 1212, 1213, 1214, 1215, 1216, 1217, 1218] rfl (by decide +kernel)
set_option maxRecDepth 20000 in
theorem gL_law_X8_clear : GoodIn wsL_law (wsV RL 121 RX8 yX8_clear wsX8_clear) := goodIn_app (goodIn_of _ (by decide +kernel)) ggL_law_X8_clear
set_option maxRecDepth 20000 in
theorem ggL_law_L_pair : GoodIn wsL_law wsL_pair := goodIn_ca (goodIn_ca (goodIn_r _ [210, 170, 171, 211, 212, 213, 2, 214, 176, 177, 24, 215, 216, 217, 180, 181, 182, 218, 219, 220, 23, 221, 222, 223, 224, 225, 59, 60, 61, 58, 226, 227, 228, 229, 55, 56, 230, 231, 232, 233, 234, 235, 236, 237, 238, 239, 178, 179, 20, 17, 240, 241, 242, 243, 244, 245, 246, 247, 66, 248, 249, 250, 251, 65, 64, 252, 253, 254, 255, 62, 63, 256, 257, 258, 259, 260, 261, 262, 263, 264, 265, 266, 267, 268, 269, 270, 271, 69, 272, 273, 274, 42, 275, 51, 49, 50, 276, 277, 278, 279, 280, 281, 282, 283, 284, 285, 286, 287, 288, 67, 289, 290, 291, 292, 293, 294, 295, 296, 297, 298, 299, 300, 301, 302, 303, 304, 305, 306, 1164, 1165, 1166, 1167, 1168, 1169, 1170, 1171, 1222, 1223, 1224, 1225, 1226, 1227, 1228, 1229, 1230, 1231, 1232, 1233, 1234, 1219, 1220, 1221, 1268, 1269, 1270] (by exact rfl) (by decide +kernel)) (goodIn_sub (fun _ h => List.mem_append_left _ (List.mem_append_left _ (List.mem_append_right _ h))) (by decide +kernel))) (goodIn_sub (fun _ h => List.mem_append_left _ (List.mem_append_right _ h)) (by decide +kernel))
set_option maxRecDepth 20000 in
theorem gL_law_L_pair : GoodIn wsL_law (va_wsS RL 122 yL_pair wsL_pair) := goodIn_app (goodIn_of _ (by decide +kernel)) ggL_law_L_pair
set_option maxRecDepth 20000 in
theorem ggL_law_X8_pair : GoodIn wsL_law wsX8_pair := goodIn_r _ [310, 139, 188, 189, 5, 190, 311, 312, 313, 314, 315, 191, 192, 193, 194, 195, 316, 317, 318, 319, 320, 321, 322, 323, 324, 137, 138, 325, 326, 327, 328, 142, 329, 330, 141, 143, 144, 145, 146, 147, 148, 331, 332, 333, 334, 335, 140, 336, 337, 338, 339, 340, 341, 342, 343, 344, 345, 346, 347, 348, 349, 350, 351, 352, 353, 128, 129, 130, 131, 132, 133, 134, 135, 354, 355, 356, 357, 358, 359, 360, 361, 1172, 1173, 1174, 1175, 1176, 1177, 1178, 1179, 1180, 1181, 1182, 1183, 1184, 1185, 1186, 1187, 1188, 1189, 1190, 1191, 1192, 1193, 1194, 1195, 1196, 1197, 1198, 1199, 1200, 1201, 1202, 1203, 1204, 1205, 1206, 1207, 1208, 1209, 1210, 1211, 1212, 1213, 1214, 1215, 1216, 1217, 1218] rfl (by decide +kernel)
set_option maxRecDepth 20000 in
theorem gL_law_X8_pair : GoodIn wsL_law (wsV RL 125 RX8 yX8_pair wsX8_pair) := goodIn_app (goodIn_of _ (by decide +kernel)) ggL_law_X8_pair
set_option maxRecDepth 20000 in
theorem ggL_law_L_word : GoodIn wsL_law wsL_word := goodIn_ca (goodIn_r _ [364, 171, 365, 366, 367, 2, 368, 24, 15, 14, 218, 219, 220, 23, 221, 222, 223, 224, 225, 59, 60, 61, 58, 226, 227, 228, 229, 55, 56, 230, 231, 232, 233, 234, 235, 236, 237, 238, 239, 178, 179, 20, 17, 240, 241, 242, 243, 244, 245, 246, 247, 66, 248, 249, 250, 251, 65, 64, 252, 253, 254, 255, 62, 63, 256, 257, 258, 259, 260, 261, 262, 263, 264, 265, 266, 267, 268, 269, 270, 271, 69, 272, 273, 274, 42, 275, 51, 49, 50, 276, 277, 278, 279, 280, 281, 282, 283, 284, 285, 286, 287, 288, 67, 289, 290, 291, 292, 293, 294, 295, 296, 297, 298, 299, 300, 301, 302, 303, 304, 305, 306, 1164, 1165, 1166, 1167, 1168, 1169, 1170, 1171, 1222, 1223, 1224, 1225, 1226, 1227, 1228, 1229, 1230, 1231, 1232, 1233, 1234, 1219, 1220, 1221, 1268, 1269, 1270] (by exact rfl) (by decide +kernel)) (goodIn_sub (fun _ h => List.mem_append_left _ (List.mem_append_right _ h)) (by decide +kernel))
set_option maxRecDepth 20000 in
theorem gL_law_L_word : GoodIn wsL_law (va_wsS RL 126 yL_word wsL_word) := goodIn_app (goodIn_of _ (by decide +kernel)) ggL_law_L_word
set_option maxRecDepth 20000 in
theorem ggL_law_X8_word : GoodIn wsL_law wsX8_word := goodIn_r _ [372, 187, 127, 139, 311, 312, 313, 5, 314, 315, 191, 192, 193, 194, 195, 316, 317, 318, 319, 320, 321, 322, 323, 324, 137, 138, 325, 326, 327, 328, 142, 329, 330, 141, 143, 144, 145, 146, 147, 148, 331, 332, 333, 334, 335, 140, 336, 337, 338, 339, 340, 341, 342, 343, 344, 345, 346, 347, 348, 349, 350, 351, 352, 353, 128, 129, 130, 131, 132, 133, 134, 135, 354, 355, 356, 357, 358, 359, 360, 361, 1172, 1173, 1174, 1175, 1176, 1177, 1178, 1179, 1180, 1181, 1182, 1183, 1184, 1185, 1186, 1187, 1188, 1189, 1190, 1191, 1192, 1193, 1194, 1195, 1196, 1197, 1198, 1199, 1200, 1201, 1202, 1203, 1204, 1205, 1206, 1207, 1208, 1209, 1210, 1211, 1212, 1213, 1214, 1215, 1216, 1217, 1218] rfl (by decide +kernel)
set_option maxRecDepth 20000 in
theorem gL_law_X8_word : GoodIn wsL_law (wsV RL 129 RX8 yX8_word wsX8_word) := goodIn_app (goodIn_of _ (by decide +kernel)) ggL_law_X8_word
set_option maxRecDepth 20000 in
theorem ggL_law_L_any : GoodIn wsL_law wsL_any := goodIn_ca (goodIn_r _ [375, 171, 376, 377, 378, 2, 379, 24, 218, 219, 220, 23, 221, 222, 223, 224, 225, 59, 60, 61, 58, 226, 227, 228, 229, 55, 56, 230, 231, 232, 233, 234, 235, 236, 237, 238, 239, 178, 179, 20, 17, 240, 241, 242, 243, 244, 245, 246, 247, 66, 248, 249, 250, 251, 65, 64, 252, 253, 254, 255, 62, 63, 256, 257, 258, 259, 260, 261, 262, 263, 264, 265, 266, 267, 268, 269, 270, 271, 69, 272, 273, 274, 42, 275, 51, 49, 50, 276, 277, 278, 279, 280, 281, 282, 283, 284, 285, 286, 287, 288, 67, 289, 290, 291, 292, 293, 294, 295, 296, 297, 298, 299, 300, 301, 302, 303, 304, 305, 306, 1164, 1165, 1166, 1167, 1168, 1169, 1170, 1171, 1222, 1223, 1224, 1225, 1226, 1227, 1228, 1229, 1230, 1231, 1232, 1233, 1234, 1219, 1220, 1221, 1268, 1269, 1270] (by exact rfl) (by decide +kernel)) (goodIn_sub (fun _ h => List.mem_append_left _ (List.mem_append_right _ h)) (by decide +kernel))
set_option maxRecDepth 20000 in
theorem gL_law_L_any : GoodIn wsL_law (va_wsS RL 130 yL_any wsL_any) := goodIn_app (goodIn_of _ (by decide +kernel)) ggL_law_L_any
set_option maxRecDepth 20000 in
theorem ggL_law_X8_any : GoodIn wsL_law wsX8_any := goodIn_r _ [383, 139, 311, 312, 313, 5, 314, 315, 191, 192, 193, 194, 195, 316, 317, 318, 319, 320, 321, 322, 323, 324, 137, 138, 325, 326, 327, 328, 142, 329, 330, 141, 143, 144, 145, 146, 147, 148, 331, 332, 333, 334, 335, 140, 336, 337, 338, 339, 340, 341, 342, 343, 344, 345, 346, 347, 348, 349, 350, 351, 352, 353, 128, 129, 130, 131, 132, 133, 134, 135, 354, 355, 356, 357, 358, 359, 360, 361, 1172, 1173, 1174, 1175, 1176, 1177, 1178, 1179, 1180, 1181, 1182, 1183, 1184, 1185, 1186, 1187, 1188, 1189, 1190, 1191, 1192, 1193, 1194, 1195, 1196, 1197, 1198, 1199, 1200, 1201, 1202, 1203, 1204, 1205, 1206, 1207, 1208, 1209, 1210, 1211, 1212, 1213, 1214, 1215, 1216, 1217, 1218] rfl (by decide +kernel)
set_option maxRecDepth 20000 in
theorem gL_law_X8_any : GoodIn wsL_law (wsV RL 132 RX8 yX8_any wsX8_any) := goodIn_app (goodIn_of _ (by decide +kernel)) ggL_law_X8_any
set_option maxRecDepth 20000 in
theorem ggL_law_L_join : GoodIn wsL_law wsL_join := goodIn_ca (goodIn_ca (goodIn_r _ [386, 387, 171, 388, 389, 390, 2, 391, 17, 24, 392, 393, 394, 395, 396, 397, 398, 20, 218, 219, 220, 23, 221, 222, 223, 224, 225, 59, 60, 61, 58, 399, 400, 401, 402, 246, 247, 289, 302, 256, 257, 303, 304, 305, 306, 258, 259, 403, 227, 228, 229, 55, 56, 230, 231, 404, 405, 406, 407, 244, 245, 408, 409, 410, 411, 412, 413, 414, 233, 234, 235, 236, 237, 238, 239, 178, 179, 240, 241, 242, 243, 66, 248, 249, 250, 251, 65, 64, 252, 253, 254, 255, 62, 63, 260, 261, 262, 263, 264, 265, 266, 267, 268, 269, 270, 271, 69, 272, 273, 274, 42, 275, 51, 49, 50, 276, 277, 278, 279, 280, 281, 282, 283, 284, 285, 286, 287, 288, 67, 290, 291, 292, 293, 294, 295, 296, 297, 298, 299, 300, 301, 1164, 1165, 1166, 1167, 1168, 1169, 1170, 1171, 1219, 1220, 1221, 1222, 1223, 1224, 1225, 1226, 1227, 1228, 1229, 1230, 1231, 1232, 1233, 1234, 1268, 1269, 1270] (by exact rfl) (by decide +kernel)) (goodIn_sub (fun _ h => List.mem_append_right _ h) (by decide +kernel))) (goodIn_sub (fun _ h => List.mem_append_left _ (List.mem_append_right _ h)) (by decide +kernel))
set_option maxRecDepth 20000 in
theorem gL_law_L_join : GoodIn wsL_law (va_wsS RL 133 yL_join wsL_join) := goodIn_app (goodIn_of _ (by decide +kernel)) ggL_law_L_join
set_option maxRecDepth 20000 in
theorem ggL_law_X8_join : GoodIn wsL_law wsX8_join := goodIn_r _ [418, 419, 420, 421, 5, 422, 315, 188, 189, 190, 311, 312, 313, 314, 423, 424, 425, 426, 128, 139, 316, 317, 318, 319, 320, 427, 428, 429, 430, 130, 131, 132, 133, 134, 135, 321, 322, 323, 324, 137, 138, 431, 432, 433, 434, 129, 325, 326, 327, 328, 142, 329, 330, 141, 143, 144, 145, 146, 147, 148, 331, 332, 333, 334, 335, 140, 336, 337, 338, 339, 340, 341, 342, 343, 344, 345, 346, 347, 348, 349, 191, 192, 193, 194, 195, 350, 351, 352, 353, 354, 355, 356, 357, 358, 359, 360, 361, 1172, 1173, 1174, 1175, 1176, 1177, 1178, 1179, 1180, 1181, 1182, 1183, 1184, 1185, 1186, 1187, 1188, 1189, 1190, 1191, 1192, 1193, 1194, 1195, 1196, 1197, 1198, 1199, 1200, 1201, 1202, 1203, 1204, 1205, 1206, 1207, 1208, 1209, 1210, 1211, 1212, 1213, 1214, 1215, 1216, 1217, 1218] rfl (by decide +kernel)
set_option maxRecDepth 20000 in
theorem gL_law_X8_join : GoodIn wsL_law (wsV RL 136 RX8 yX8_join wsX8_join) := goodIn_app (goodIn_of _ (by decide +kernel)) ggL_law_X8_join
set_option maxRecDepth 20000 in
theorem ggL_law_L_unite : GoodIn wsL_law wsL_unite := goodIn_ca (goodIn_ca (goodIn_r _ [437, 387, 171, 438, 439, 440, 2, 441, 17, 392, 24, 393, 394, 395, 396, 397, 398, 20, 218, 219, 220, 23, 221, 222, 223, 224, 225, 59, 60, 61, 58, 399, 400, 401, 402, 246, 247, 289, 302, 256, 257, 303, 304, 305, 306, 258, 259, 403, 227, 228, 229, 55, 56, 230, 231, 410, 411, 412, 413, 244, 245, 408, 409, 414, 233, 234, 235, 226, 236, 237, 238, 239, 178, 179, 240, 241, 242, 243, 66, 248, 249, 250, 251, 65, 64, 252, 253, 254, 255, 62, 63, 260, 261, 262, 263, 264, 265, 266, 267, 268, 269, 270, 271, 69, 272, 273, 274, 42, 275, 51, 49, 50, 276, 277, 278, 279, 280, 281, 282, 283, 284, 285, 286, 287, 288, 67, 290, 291, 292, 293, 294, 295, 296, 297, 298, 299, 300, 301, 1164, 1165, 1166, 1167, 1168, 1169, 1170, 1171, 1219, 1220, 1221, 1222, 1223, 1224, 1225, 1226, 1227, 1228, 1229, 1230, 1231, 1232, 1233, 1234, 1268, 1269, 1270] (by exact rfl) (by decide +kernel)) (goodIn_sub (fun _ h => List.mem_append_right _ h) (by decide +kernel))) (goodIn_sub (fun _ h => List.mem_append_left _ (List.mem_append_right _ h)) (by decide +kernel))
set_option maxRecDepth 20000 in
theorem gL_law_L_unite : GoodIn wsL_law (va_wsS RL 137 yL_unite wsL_unite) := goodIn_app (goodIn_of _ (by decide +kernel)) ggL_law_L_unite
set_option maxRecDepth 20000 in
theorem ggL_law_X8_unite : GoodIn wsL_law wsX8_unite := goodIn_r _ [445, 419, 420, 421, 5, 422, 315, 188, 189, 190, 311, 312, 313, 314, 446, 447, 448, 449, 128, 139, 316, 317, 318, 319, 320, 427, 428, 429, 430, 130, 131, 132, 133, 134, 135, 321, 322, 323, 324, 137, 138, 431, 432, 433, 434, 129, 325, 326, 327, 328, 142, 329, 330, 141, 143, 144, 145, 146, 147, 148, 331, 332, 333, 334, 335, 140, 336, 337, 338, 339, 340, 341, 342, 343, 344, 345, 346, 347, 348, 349, 191, 192, 193, 194, 195, 350, 351, 352, 353, 354, 355, 356, 357, 358, 359, 360, 361, 1172, 1173, 1174, 1175, 1176, 1177, 1178, 1179, 1180, 1181, 1182, 1183, 1184, 1185, 1186, 1187, 1188, 1189, 1190, 1191, 1192, 1193, 1194, 1195, 1196, 1197, 1198, 1199, 1200, 1201, 1202, 1203, 1204, 1205, 1206, 1207, 1208, 1209, 1210, 1211, 1212, 1213, 1214, 1215, 1216, 1217, 1218] rfl (by decide +kernel)
set_option maxRecDepth 20000 in
theorem gL_law_X8_unite : GoodIn wsL_law (wsV RL 139 RX8 yX8_unite wsX8_unite) := goodIn_app (goodIn_of _ (by decide +kernel)) ggL_law_X8_unite
set_option maxRecDepth 20000 in
theorem ggL_law_L_repeat : GoodIn wsL_law wsL_repeat := goodIn_ca (goodIn_ca (goodIn_r _ [452, 387, 171, 453, 454, 455, 2, 456, 178, 179, 17, 392, 24, 393, 394, 395, 396, 397, 398, 20, 457, 458, 459, 19, 460, 44, 43, 461, 462, 45, 303, 304, 305, 306, 256, 257, 408, 409, 258, 259, 218, 219, 220, 23, 221, 222, 223, 224, 225, 59, 60, 61, 58, 399, 400, 401, 402, 246, 247, 289, 302, 403, 227, 228, 229, 55, 56, 230, 231, 226, 404, 405, 406, 407, 244, 245, 232, 233, 234, 235, 236, 237, 238, 239, 240, 241, 242, 243, 66, 248, 249, 250, 251, 65, 64, 252, 253, 254, 255, 62, 63, 260, 261, 262, 263, 264, 265, 266, 267, 268, 269, 270, 271, 69, 272, 273, 274, 42, 275, 51, 49, 50, 276, 277, 278, 279, 280, 281, 282, 283, 284, 285, 286, 287, 288, 67, 290, 291, 292, 293, 294, 295, 296, 297, 298, 299, 300, 301, 1164, 1165, 1166, 1167, 1168, 1169, 1170, 1171, 1219, 1220, 1221, 1268, 1269, 1270, 1222, 1223, 1224, 1225, 1226, 1227, 1228, 1229, 1230, 1231, 1232, 1233, 1234] (by exact rfl) (by decide +kernel)) (goodIn_sub (fun _ h => List.mem_append_left _ (List.mem_append_right _ h)) (by decide +kernel))) (goodIn_sub (fun _ h => List.mem_append_right _ h) (by decide +kernel))
set_option maxRecDepth 20000 in
theorem gL_law_L_repeat : GoodIn wsL_law (va_wsS RL 140 yL_repeat wsL_repeat) := goodIn_app (goodIn_of _ (by decide +kernel)) ggL_law_L_repeat
set_option maxRecDepth 20000 in
theorem ggL_law_X8_repeat : GoodIn wsL_law wsX8_repeat := goodIn_r _ [466, 419, 420, 421, 5, 422, 315, 188, 189, 190, 311, 312, 313, 314, 467, 468, 469, 470, 130, 131, 132, 133, 135, 129, 471, 472, 473, 474, 128, 139, 316, 317, 318, 319, 320, 427, 428, 429, 430, 134, 321, 322, 323, 324, 137, 138, 431, 432, 433, 434, 325, 326, 327, 328, 142, 329, 330, 141, 143, 144, 145, 146, 147, 148, 331, 332, 333, 334, 335, 140, 336, 337, 338, 339, 340, 341, 342, 343, 344, 345, 346, 347, 348, 349, 191, 192, 193, 194, 195, 350, 351, 352, 353, 354, 355, 356, 357, 358, 359, 360, 361, 1172, 1173, 1174, 1175, 1176, 1177, 1178, 1179, 1180, 1181, 1182, 1183, 1184, 1185, 1186, 1187, 1188, 1189, 1190, 1191, 1192, 1193, 1194, 1195, 1196, 1197, 1198, 1199, 1200, 1201, 1202, 1203, 1204, 1205, 1206, 1207, 1208, 1209, 1210, 1211, 1212, 1213, 1214, 1215, 1216, 1217, 1218] rfl (by decide +kernel)
set_option maxRecDepth 20000 in
theorem gL_law_X8_repeat : GoodIn wsL_law (wsV RL 142 RX8 yX8_repeat wsX8_repeat) := goodIn_app (goodIn_of _ (by decide +kernel)) ggL_law_X8_repeat
set_option maxRecDepth 20000 in
theorem ggL_law_L_turn : GoodIn wsL_law wsL_turn := goodIn_ca (goodIn_ca (goodIn_r _ [477, 387, 171, 478, 479, 480, 2, 481, 17, 24, 392, 482, 483, 484, 485, 393, 394, 395, 396, 397, 398, 20, 218, 219, 220, 23, 221, 222, 223, 224, 225, 59, 60, 61, 58, 486, 256, 257, 487, 305, 306, 488, 303, 304, 489, 258, 259, 226, 227, 228, 229, 55, 56, 230, 231, 410, 411, 412, 413, 244, 245, 408, 409, 414, 233, 234, 235, 236, 237, 238, 239, 178, 179, 240, 241, 242, 243, 246, 247, 66, 248, 249, 250, 251, 65, 64, 252, 253, 254, 255, 62, 63, 260, 261, 262, 263, 264, 265, 266, 267, 268, 269, 270, 271, 69, 272, 273, 274, 42, 275, 51, 49, 50, 276, 277, 278, 279, 280, 281, 282, 283, 284, 285, 286, 287, 288, 67, 289, 290, 291, 292, 293, 294, 295, 296, 297, 298, 299, 300, 301, 302, 1164, 1165, 1166, 1167, 1168, 1169, 1170, 1171, 1219, 1220, 1221, 1268, 1269, 1270, 1222, 1223, 1224, 1225, 1226, 1227, 1228, 1229, 1230, 1231, 1232, 1233, 1234] (by exact rfl) (by decide +kernel)) (goodIn_sub (fun _ h => List.mem_append_right _ h) (by decide +kernel))) (goodIn_sub (fun _ h => List.mem_append_left _ (List.mem_append_right _ h)) (by decide +kernel))
set_option maxRecDepth 20000 in
theorem gL_law_L_turn : GoodIn wsL_law (va_wsS RL 143 yL_turn wsL_turn) := goodIn_app (goodIn_of _ (by decide +kernel)) ggL_law_L_turn
set_option maxRecDepth 20000 in
theorem ggL_law_X8_turn : GoodIn wsL_law wsX8_turn := goodIn_r _ [493, 419, 420, 421, 5, 422, 315, 188, 189, 190, 311, 312, 313, 314, 494, 495, 496, 497, 130, 131, 133, 132, 134, 135, 128, 139, 316, 317, 318, 319, 320, 321, 322, 323, 324, 137, 138, 431, 432, 433, 434, 129, 325, 326, 327, 328, 142, 329, 330, 141, 143, 144, 145, 146, 147, 148, 331, 332, 333, 334, 335, 140, 336, 337, 338, 339, 340, 341, 342, 343, 344, 345, 346, 347, 348, 349, 191, 192, 193, 194, 195, 350, 351, 352, 353, 354, 355, 356, 357, 358, 359, 360, 361, 1172, 1173, 1174, 1175, 1176, 1177, 1178, 1179, 1180, 1181, 1182, 1183, 1184, 1185, 1186, 1187, 1188, 1189, 1190, 1191, 1192, 1193, 1194, 1195, 1196, 1197, 1198, 1199, 1200, 1201, 1202, 1203, 1204, 1205, 1206, 1207, 1208, 1209, 1210, 1211, 1212, 1213, 1214, 1215, 1216, 1217, 1218] rfl (by decide +kernel)
set_option maxRecDepth 20000 in
theorem gL_law_X8_turn : GoodIn wsL_law (wsV RL 145 RX8 yX8_turn wsX8_turn) := goodIn_app (goodIn_of _ (by decide +kernel)) ggL_law_X8_turn
set_option maxRecDepth 20000 in
theorem ggL_law_L_compose : GoodIn wsL_law wsL_compose := goodIn_ca (goodIn_ca (goodIn_r _ [500, 387, 171, 501, 502, 503, 2, 504, 178, 179, 17, 24, 392, 393, 394, 395, 396, 397, 398, 20, 218, 219, 220, 23, 221, 222, 223, 224, 225, 59, 60, 61, 58, 505, 506, 507, 508, 482, 483, 484, 485, 509, 487, 305, 306, 488, 303, 304, 486, 256, 257, 489, 258, 259, 226, 227, 228, 229, 55, 56, 230, 231, 510, 511, 512, 513, 514, 515, 516, 517, 518, 519, 520, 521, 522, 523, 408, 409, 410, 411, 412, 413, 244, 245, 414, 233, 234, 235, 236, 237, 238, 239, 240, 241, 242, 243, 246, 247, 66, 248, 249, 250, 251, 65, 64, 252, 253, 254, 255, 62, 63, 260, 261, 262, 263, 264, 265, 266, 267, 268, 269, 270, 271, 69, 272, 273, 274, 42, 275, 51, 49, 50, 276, 277, 278, 279, 280, 281, 282, 283, 284, 285, 286, 287, 288, 67, 289, 290, 291, 292, 293, 294, 295, 296, 297, 298, 299, 300, 301, 302, 1164, 1165, 1166, 1167, 1168, 1169, 1170, 1171, 1219, 1220, 1221, 1222, 1223, 1224, 1225, 1226, 1227, 1228, 1229, 1230, 1231, 1232, 1233, 1234, 1268, 1269, 1270] (by exact rfl) (by decide +kernel)) (goodIn_sub (fun _ h => List.mem_append_left _ (List.mem_append_right _ h)) (by decide +kernel))) (goodIn_sub (fun _ h => List.mem_append_right _ h) (by decide +kernel))
set_option maxRecDepth 20000 in
theorem gL_law_L_compose : GoodIn wsL_law (va_wsS RL 146 yL_compose wsL_compose) := goodIn_app (goodIn_of _ (by decide +kernel)) ggL_law_L_compose
set_option maxRecDepth 20000 in
theorem ggL_law_X8_compose : GoodIn wsL_law wsX8_compose := goodIn_r _ [527, 419, 420, 421, 5, 422, 315, 188, 189, 190, 311, 312, 313, 314, 528, 529, 530, 531, 128, 130, 133, 132, 134, 532, 131, 135, 139, 316, 317, 318, 319, 320, 321, 322, 323, 324, 137, 138, 431, 432, 433, 434, 129, 325, 326, 327, 328, 142, 329, 330, 141, 143, 144, 145, 146, 147, 148, 331, 332, 333, 334, 335, 140, 336, 337, 338, 339, 340, 341, 342, 343, 344, 345, 346, 347, 348, 349, 191, 192, 193, 194, 195, 350, 351, 352, 353, 354, 355, 356, 357, 358, 359, 360, 361, 1172, 1173, 1174, 1175, 1176, 1177, 1178, 1179, 1180, 1181, 1182, 1183, 1184, 1185, 1186, 1187, 1188, 1189, 1190, 1191, 1192, 1193, 1194, 1195, 1196, 1197, 1198, 1199, 1200, 1201, 1202, 1203, 1204, 1205, 1206, 1207, 1208, 1209, 1210, 1211, 1212, 1213, 1214, 1215, 1216, 1217, 1218] rfl (by decide +kernel)
set_option maxRecDepth 20000 in
theorem gL_law_X8_compose : GoodIn wsL_law (wsV RL 148 RX8 yX8_compose wsX8_compose) := goodIn_app (goodIn_of _ (by decide +kernel)) ggL_law_X8_compose
set_option maxRecDepth 20000 in
theorem ggL_law_L_side : GoodIn wsL_law wsL_side := goodIn_ca (goodIn_ca (goodIn_r _ [535, 387, 171, 536, 537, 538, 2, 539, 17, 24, 392, 482, 483, 484, 393, 394, 395, 396, 397, 398, 20, 218, 219, 220, 23, 221, 222, 223, 224, 225, 59, 60, 61, 58, 488, 303, 304, 487, 305, 306, 486, 256, 257, 489, 258, 259, 226, 227, 228, 229, 55, 56, 230, 231, 410, 411, 412, 413, 244, 245, 408, 409, 414, 233, 234, 235, 236, 237, 238, 239, 178, 179, 240, 241, 242, 243, 246, 247, 66, 248, 249, 250, 251, 65, 64, 252, 253, 254, 255, 62, 63, 260, 261, 262, 263, 264, 265, 266, 267, 268, 269, 270, 271, 69, 272, 273, 274, 42, 275, 51, 49, 50, 276, 277, 278, 279, 280, 281, 282, 283, 284, 285, 286, 287, 288, 67, 289, 290, 291, 292, 293, 294, 295, 296, 297, 298, 299, 300, 301, 302, 1164, 1165, 1166, 1167, 1168, 1169, 1170, 1171, 1219, 1220, 1221, 1268, 1269, 1270, 1222, 1223, 1224, 1225, 1226, 1227, 1228, 1229, 1230, 1231, 1232, 1233, 1234] (by exact rfl) (by decide +kernel)) (goodIn_sub (fun _ h => List.mem_append_right _ h) (by decide +kernel))) (goodIn_sub (fun _ h => List.mem_append_left _ (List.mem_append_right _ h)) (by decide +kernel))
set_option maxRecDepth 20000 in
theorem gL_law_L_side : GoodIn wsL_law (va_wsS RL 149 yL_side wsL_side) := goodIn_app (goodIn_of _ (by decide +kernel)) ggL_law_L_side
set_option maxRecDepth 20000 in
theorem ggL_law_X8_side : GoodIn wsL_law wsX8_side := goodIn_r _ [543, 419, 420, 421, 5, 422, 315, 188, 189, 190, 311, 312, 313, 314, 544, 545, 546, 547, 130, 132, 133, 131, 135, 128, 139, 316, 317, 318, 319, 320, 321, 322, 323, 324, 137, 138, 431, 432, 433, 434, 129, 325, 326, 327, 328, 142, 329, 330, 141, 143, 144, 145, 146, 147, 148, 331, 332, 333, 334, 335, 140, 336, 337, 338, 339, 340, 341, 342, 343, 344, 345, 346, 347, 348, 349, 191, 192, 193, 194, 195, 350, 351, 352, 353, 134, 354, 355, 356, 357, 358, 359, 360, 361, 1172, 1173, 1174, 1175, 1176, 1177, 1178, 1179, 1180, 1181, 1182, 1183, 1184, 1185, 1186, 1187, 1188, 1189, 1190, 1191, 1192, 1193, 1194, 1195, 1196, 1197, 1198, 1199, 1200, 1201, 1202, 1203, 1204, 1205, 1206, 1207, 1208, 1209, 1210, 1211, 1212, 1213, 1214, 1215, 1216, 1217, 1218] rfl (by decide +kernel)
set_option maxRecDepth 20000 in
theorem gL_law_X8_side : GoodIn wsL_law (wsV RL 152 RX8 yX8_side wsX8_side) := goodIn_app (goodIn_of _ (by decide +kernel)) ggL_law_X8_side
set_option maxRecDepth 20000 in
theorem ggL_law_L_least : GoodIn wsL_law wsL_least := goodIn_ca (goodIn_ca (goodIn_r _ [550, 387, 171, 551, 552, 553, 2, 554, 28, 17, 24, 393, 394, 395, 396, 397, 398, 20, 555, 556, 557, 558, 178, 179, 559, 560, 561, 19, 562, 43, 461, 462, 563, 303, 304, 305, 306, 564, 565, 566, 27, 567, 76, 77, 78, 568, 569, 570, 75, 571, 572, 94, 573, 95, 93, 574, 575, 576, 92, 577, 578, 579, 580, 256, 257, 258, 259, 581, 582, 583, 584, 585, 586, 587, 588, 84, 79, 80, 81, 589, 590, 591, 592, 593, 594, 595, 596, 82, 83, 597, 598, 599, 600, 408, 409, 601, 602, 603, 604, 605, 606, 607, 608, 609, 610, 611, 612, 613, 614, 615, 85, 86, 616, 617, 618, 619, 620, 621, 622, 623, 624, 625, 626, 627, 628, 629, 630, 631, 632, 219, 220, 23, 221, 222, 223, 224, 225, 59, 60, 61, 58, 633, 634, 635, 636, 637, 638, 639, 640, 87, 88, 641, 642, 643, 644, 645, 646, 647, 648, 649, 650, 651, 652, 653, 654, 655, 656, 657, 233, 234, 235, 658, 227, 228, 229, 55, 56, 230, 231, 659, 660, 661, 236, 237, 238, 239, 240, 241, 242, 243, 244, 245, 246, 247, 66, 248, 249, 250, 251, 65, 64, 252, 253, 254, 255, 62, 63, 260, 261, 262, 263, 264, 265, 266, 267, 268, 269, 270, 271, 69, 272, 273, 274, 42, 275, 51, 49, 50, 276, 277, 278, 279, 280, 281, 282, 283, 284, 285, 286, 287, 288, 67, 289, 290, 291, 292, 293, 294, 295, 296, 297, 298, 299, 300, 301, 302, 1164, 1165, 1166, 1167, 1168, 1169, 1170, 1171, 1219, 1220, 1221, 1268, 1269, 1270, 1235, 1236, 1237, 1238, 1239, 1240, 1241, 1242, 1243, 1244, 1245, 1246, 1247, 1271, 1272, 1273, 1274, 1222, 1223, 1224, 1225, 1226, 1227, 1228, 1229, 1230, 1231, 1232, 1233, 1234] (by exact rfl) (by decide +kernel)) (goodIn_sub (fun _ h => List.mem_append_right _ h) (by decide +kernel))) (goodIn_sub (fun _ h => List.mem_append_left _ (List.mem_append_right _ h)) (by decide +kernel))
set_option maxRecDepth 20000 in
theorem gL_law_L_least : GoodIn wsL_law (va_wsS RL 153 yL_least wsL_least) := goodIn_app (goodIn_of _ (by decide +kernel)) ggL_law_L_least
set_option maxRecDepth 20000 in
theorem ggL_law_X8_least : GoodIn wsL_law wsX8_least := goodIn_r _ [665, 419, 420, 421, 5, 422, 315, 188, 189, 190, 311, 312, 313, 314, 666, 667, 668, 669, 130, 132, 133, 134, 670, 671, 672, 673, 674, 154, 139, 151, 675, 676, 677, 678, 149, 150, 679, 680, 681, 682, 131, 135, 683, 684, 685, 686, 152, 153, 687, 688, 689, 690, 691, 692, 693, 694, 695, 696, 697, 129, 698, 699, 700, 701, 155, 702, 703, 704, 705, 706, 707, 708, 709, 316, 317, 318, 319, 320, 321, 322, 323, 324, 137, 138, 325, 326, 327, 328, 142, 329, 330, 141, 143, 144, 145, 146, 147, 148, 331, 332, 333, 334, 335, 140, 336, 337, 338, 339, 340, 341, 342, 343, 344, 345, 346, 347, 348, 349, 191, 192, 193, 194, 195, 350, 351, 352, 353, 128, 354, 355, 356, 357, 358, 359, 360, 361, 1172, 1173, 1174, 1175, 1176, 1177, 1178, 1179, 1180, 1181, 1182, 1183, 1184, 1185, 1186, 1187, 1188, 1189, 1190, 1191, 1192, 1193, 1194, 1195, 1196, 1197, 1198, 1199, 1200, 1201, 1202, 1203, 1204, 1205, 1206, 1207, 1208, 1209, 1210, 1211, 1212, 1213, 1214, 1215, 1216, 1217, 1218] rfl (by decide +kernel)
set_option maxRecDepth 20000 in
theorem gL_law_X8_least : GoodIn wsL_law (wsV RL 155 RX8 yX8_least wsX8_least) := goodIn_app (goodIn_of _ (by decide +kernel)) ggL_law_X8_least
set_option maxRecDepth 20000 in
theorem ggL_law_L_meet : GoodIn wsL_law wsL_meet := goodIn_ca (goodIn_ca (goodIn_r _ [712, 387, 171, 713, 714, 715, 2, 716, 28, 17, 24, 393, 394, 395, 396, 397, 398, 20, 555, 556, 557, 558, 178, 179, 559, 560, 561, 19, 562, 43, 461, 462, 563, 303, 304, 305, 306, 717, 718, 719, 27, 720, 76, 77, 78, 568, 569, 570, 75, 571, 572, 94, 573, 95, 93, 574, 575, 576, 92, 577, 578, 579, 580, 256, 257, 258, 259, 585, 586, 587, 588, 84, 79, 80, 81, 589, 590, 591, 592, 593, 594, 595, 596, 82, 83, 597, 598, 599, 600, 408, 409, 601, 602, 603, 604, 605, 606, 607, 608, 609, 610, 611, 612, 613, 614, 615, 85, 86, 616, 617, 618, 619, 620, 621, 622, 623, 624, 625, 626, 627, 628, 629, 630, 631, 632, 219, 220, 23, 221, 222, 223, 224, 225, 59, 60, 61, 58, 633, 634, 635, 636, 637, 638, 639, 640, 87, 88, 641, 642, 643, 644, 645, 646, 647, 648, 649, 650, 651, 652, 653, 654, 655, 656, 657, 233, 234, 235, 658, 227, 228, 229, 55, 56, 230, 231, 659, 660, 661, 236, 237, 238, 239, 240, 241, 242, 243, 244, 245, 246, 247, 66, 248, 249, 250, 251, 65, 64, 252, 253, 254, 255, 62, 63, 260, 261, 262, 263, 264, 265, 266, 267, 268, 269, 270, 271, 69, 272, 273, 274, 42, 275, 51, 49, 50, 276, 277, 278, 279, 280, 281, 282, 283, 284, 285, 286, 287, 288, 67, 289, 290, 291, 292, 293, 294, 295, 296, 297, 298, 299, 300, 301, 302, 1164, 1165, 1166, 1167, 1168, 1169, 1170, 1171, 1219, 1220, 1221, 1268, 1269, 1270, 1235, 1236, 1237, 1238, 1239, 1240, 1241, 1242, 1243, 1244, 1245, 1246, 1247, 1271, 1272, 1273, 1274, 1222, 1223, 1224, 1225, 1226, 1227, 1228, 1229, 1230, 1231, 1232, 1233, 1234] (by exact rfl) (by decide +kernel)) (goodIn_sub (fun _ h => List.mem_append_right _ h) (by decide +kernel))) (goodIn_sub (fun _ h => List.mem_append_left _ (List.mem_append_right _ h)) (by decide +kernel))
set_option maxRecDepth 20000 in
theorem gL_law_L_meet : GoodIn wsL_law (va_wsS RL 156 yL_meet wsL_meet) := goodIn_app (goodIn_of _ (by decide +kernel)) ggL_law_L_meet
set_option maxRecDepth 20000 in
theorem ggL_law_X8_meet : GoodIn wsL_law wsX8_meet := goodIn_r _ [724, 419, 420, 421, 5, 422, 315, 188, 189, 190, 311, 312, 313, 314, 666, 667, 668, 669, 130, 132, 133, 134, 670, 671, 672, 673, 674, 154, 139, 151, 675, 676, 677, 678, 149, 150, 679, 680, 681, 682, 131, 135, 683, 684, 685, 686, 152, 153, 687, 688, 689, 690, 691, 692, 693, 694, 695, 696, 697, 129, 698, 699, 700, 701, 155, 702, 703, 704, 705, 706, 707, 708, 709, 316, 317, 318, 319, 320, 321, 322, 323, 324, 137, 138, 325, 326, 327, 328, 142, 329, 330, 141, 143, 144, 145, 146, 147, 148, 331, 332, 333, 334, 335, 140, 336, 337, 338, 339, 340, 341, 342, 343, 344, 345, 346, 347, 348, 349, 191, 192, 193, 194, 195, 350, 351, 352, 353, 128, 354, 355, 356, 357, 358, 359, 360, 361, 1172, 1173, 1174, 1175, 1176, 1177, 1178, 1179, 1180, 1181, 1182, 1183, 1184, 1185, 1186, 1187, 1188, 1189, 1190, 1191, 1192, 1193, 1194, 1195, 1196, 1197, 1198, 1199, 1200, 1201, 1202, 1203, 1204, 1205, 1206, 1207, 1208, 1209, 1210, 1211, 1212, 1213, 1214, 1215, 1216, 1217, 1218] rfl (by decide +kernel)
set_option maxRecDepth 20000 in
theorem gL_law_X8_meet : GoodIn wsL_law (wsV RL 159 RX8 yX8_meet wsX8_meet) := goodIn_app (goodIn_of _ (by decide +kernel)) ggL_law_X8_meet
set_option maxRecDepth 20000 in
theorem ggL_law_L_rule : GoodIn wsL_law wsL_rule := goodIn_ca (goodIn_ca (goodIn_r _ [727, 170, 171, 728, 729, 730, 2, 731, 178, 179, 24, 732, 733, 734, 176, 177, 180, 181, 182, 215, 216, 217, 735, 736, 737, 738, 739, 740, 218, 219, 220, 23, 221, 222, 223, 224, 225, 59, 60, 61, 58, 741, 742, 743, 744, 745, 746, 747, 226, 227, 228, 229, 55, 56, 230, 231, 748, 749, 750, 751, 232, 233, 234, 235, 236, 237, 238, 239, 20, 17, 240, 241, 242, 243, 244, 245, 246, 247, 66, 248, 249, 250, 251, 65, 64, 252, 253, 254, 255, 62, 63, 256, 257, 258, 259, 260, 261, 262, 263, 264, 265, 266, 267, 268, 269, 270, 271, 69, 272, 273, 274, 42, 275, 51, 49, 50, 276, 277, 278, 279, 280, 281, 282, 283, 284, 285, 286, 287, 288, 67, 289, 290, 291, 292, 293, 294, 295, 296, 297, 298, 299, 300, 301, 302, 303, 304, 305, 306, 1164, 1165, 1166, 1167, 1168, 1169, 1170, 1171, 1222, 1223, 1224, 1225, 1226, 1227, 1228, 1229, 1230, 1231, 1232, 1233, 1234, 1219, 1220, 1221, 1268, 1269, 1270] (by exact rfl) (by decide +kernel)) (goodIn_sub (fun _ h => List.mem_append_left _ (List.mem_append_right _ h)) (by decide +kernel))) (goodIn_sub (fun _ h => List.mem_append_left _ (List.mem_append_left _ (List.mem_append_right _ h))) (by decide +kernel))
set_option maxRecDepth 20000 in
theorem gL_law_L_rule : GoodIn wsL_law (va_wsS RL 160 yL_rule wsL_rule) := goodIn_app (goodIn_of _ (by decide +kernel)) ggL_law_L_rule
set_option maxRecDepth 20000 in
theorem ggL_law_X8_rule : GoodIn wsL_law wsX8_rule := goodIn_r _ [755, 756, 757, 5, 758, 188, 189, 190, 311, 312, 313, 314, 315, 759, 760, 761, 762, 139, 316, 317, 318, 319, 320, 763, 764, 765, 766, 321, 322, 323, 324, 137, 138, 325, 326, 327, 328, 142, 329, 330, 141, 143, 144, 145, 146, 147, 148, 331, 332, 333, 334, 335, 140, 336, 337, 338, 339, 340, 341, 342, 343, 344, 345, 346, 347, 348, 349, 191, 192, 193, 194, 195, 350, 351, 352, 353, 128, 129, 130, 131, 132, 133, 134, 135, 354, 355, 356, 357, 358, 359, 360, 361, 1172, 1173, 1174, 1175, 1176, 1177, 1178, 1179, 1180, 1181, 1182, 1183, 1184, 1185, 1186, 1187, 1188, 1189, 1190, 1191, 1192, 1193, 1194, 1195, 1196, 1197, 1198, 1199, 1200, 1201, 1202, 1203, 1204, 1205, 1206, 1207, 1208, 1209, 1210, 1211, 1212, 1213, 1214, 1215, 1216, 1217, 1218] rfl (by decide +kernel)
set_option maxRecDepth 20000 in
theorem gL_law_X8_rule : GoodIn wsL_law (wsV RL 163 RX8 yX8_rule wsX8_rule) := goodIn_app (goodIn_of _ (by decide +kernel)) ggL_law_X8_rule
set_option maxRecDepth 20000 in
theorem ggL_law_L_size : GoodIn wsL_law wsL_size := goodIn_ca (goodIn_r _ [769, 387, 770, 771, 772, 2, 773, 17, 392, 482, 483, 393, 394, 395, 396, 397, 398, 20, 1164, 1165, 1166, 1167, 1168, 1169, 1170, 1171, 1219, 1220, 1221, 1268, 1269, 1270] (by exact rfl) (by decide +kernel)) (goodIn_sub (fun _ h => List.mem_append_right _ h) (by decide +kernel))
set_option maxRecDepth 20000 in
theorem gL_law_L_size : GoodIn wsL_law (va_wsS RL 164 yL_size wsL_size) := goodIn_app (goodIn_of _ (by decide +kernel)) ggL_law_L_size
set_option maxRecDepth 20000 in
theorem ggL_law_X8_size : GoodIn wsL_law wsX8_size := goodIn_r _ [777, 128, 130, 419, 420, 421, 5, 422, 315, 188, 189, 190, 191, 192, 193, 194, 195, 1172, 1173, 1174, 1175, 1176, 1177, 1178, 1179, 1180, 1181, 1182, 1183, 1184, 1185, 1186, 1187, 1188, 1189, 1190, 1191, 1192, 1193, 1194, 1195, 1196, 1197, 1198, 1199, 1200, 1201, 1202, 1203, 1204, 1205, 1206, 1207, 1208, 1209, 1210, 1211, 1212, 1213, 1214, 1215, 1216, 1217, 1218] rfl (by decide +kernel)
set_option maxRecDepth 20000 in
theorem gL_law_X8_size : GoodIn wsL_law (wsV RL 166 RX8 yX8_size wsX8_size) := goodIn_app (goodIn_of _ (by decide +kernel)) ggL_law_X8_size
set_option maxRecDepth 20000 in
theorem ggL_law_L_isEnd : GoodIn wsL_law wsL_isEnd := goodIn_ca (goodIn_r _ [780, 387, 781, 782, 783, 2, 784, 397, 398, 17, 392, 522, 393, 394, 395, 396, 20, 523, 408, 409, 1164, 1165, 1166, 1167, 1168, 1169, 1170, 1171, 1219, 1220, 1221] (by exact rfl) (by decide +kernel)) (goodIn_sub (fun _ h => List.mem_append_right _ h) (by decide +kernel))
set_option maxRecDepth 20000 in
theorem gL_law_L_isEnd : GoodIn wsL_law (va_wsS RL 167 yL_isEnd wsL_isEnd) := goodIn_app (goodIn_of _ (by decide +kernel)) ggL_law_L_isEnd
set_option maxRecDepth 20000 in
theorem ggL_law_X8_isEnd : GoodIn wsL_law wsX8_isEnd := goodIn_r _ [788, 128, 419, 420, 421, 5, 422, 315, 188, 189, 190, 191, 192, 193, 194, 195, 431, 432, 433, 434, 129, 1172, 1173, 1174, 1175, 1176, 1177, 1178, 1179, 1180, 1181, 1182, 1183, 1184, 1185, 1186, 1187, 1188, 1189, 1190, 1191, 1192, 1193, 1194, 1195, 1196, 1197, 1198, 1199, 1200, 1201, 1202, 1203, 1204, 1205, 1206, 1207, 1208, 1209, 1210, 1211, 1212, 1213, 1214, 1215, 1216, 1217, 1218] rfl (by decide +kernel)
set_option maxRecDepth 20000 in
theorem gL_law_X8_isEnd : GoodIn wsL_law (wsV RL 169 RX8 yX8_isEnd wsX8_isEnd) := goodIn_app (goodIn_of _ (by decide +kernel)) ggL_law_X8_isEnd
set_option maxRecDepth 20000 in
theorem ggL_law_L_arc : GoodIn wsL_law wsL_arc := goodIn_ca (goodIn_ca (goodIn_r _ [791, 387, 170, 792, 793, 794, 2, 795, 397, 398, 176, 177, 17, 482, 483, 484, 485, 393, 394, 395, 396, 20, 486, 256, 257, 488, 303, 304, 487, 305, 306, 489, 258, 259, 1164, 1165, 1166, 1167, 1168, 1169, 1170, 1171, 1219, 1220, 1221, 1268, 1269, 1270] (by exact rfl) (by decide +kernel)) (goodIn_sub (fun _ h => List.mem_append_right _ h) (by decide +kernel))) (goodIn_sub (fun _ h => List.mem_append_left _ (List.mem_append_left _ (List.mem_append_right _ h))) (by decide +kernel))
set_option maxRecDepth 20000 in
theorem gL_law_L_arc : GoodIn wsL_law (va_wsS RL 170 yL_arc wsL_arc) := goodIn_app (goodIn_of _ (by decide +kernel)) ggL_law_L_arc
set_option maxRecDepth 20000 in
theorem ggL_law_X8_arc : GoodIn wsL_law wsX8_arc := goodIn_r _ [799, 130, 131, 132, 133, 134, 135, 419, 420, 421, 5, 422, 315, 188, 189, 190, 191, 192, 193, 194, 195, 1172, 1173, 1174, 1175, 1176, 1177, 1178, 1179, 1180, 1181, 1182, 1183, 1184, 1185, 1186, 1187, 1188, 1189, 1190, 1191, 1192, 1193, 1194, 1195, 1196, 1197, 1198, 1199, 1200, 1201, 1202, 1203, 1204, 1205, 1206, 1207, 1208, 1209, 1210, 1211, 1212, 1213, 1214, 1215, 1216, 1217, 1218] rfl (by decide +kernel)
set_option maxRecDepth 20000 in
theorem gL_law_X8_arc : GoodIn wsL_law (wsV RL 172 RX8 yX8_arc wsX8_arc) := goodIn_app (goodIn_of _ (by decide +kernel)) ggL_law_X8_arc
set_option maxRecDepth 20000 in
theorem ggL_law_L_isPlain : GoodIn wsL_law wsL_isPlain := goodIn_ca (goodIn_r _ [802, 387, 803, 804, 805, 2, 806, 17, 393, 394, 395, 396, 397, 398, 20, 559, 560, 561, 19, 562, 43, 461, 462, 563, 303, 304, 305, 306, 1164, 1165, 1166, 1167, 1168, 1169, 1170, 1171, 1219, 1220, 1221, 1268, 1269, 1270] (by exact rfl) (by decide +kernel)) (goodIn_sub (fun _ h => List.mem_append_right _ h) (by decide +kernel))
set_option maxRecDepth 20000 in
theorem gL_law_L_isPlain : GoodIn wsL_law (va_wsS RL 173 yL_isPlain wsL_isPlain) := goodIn_app (goodIn_of _ (by decide +kernel)) ggL_law_L_isPlain
set_option maxRecDepth 20000 in
theorem ggL_law_X8_isPlain : GoodIn wsL_law wsX8_isPlain := goodIn_r _ [810, 419, 420, 421, 5, 422, 315, 188, 189, 190, 191, 192, 193, 194, 195, 666, 667, 668, 669, 130, 132, 133, 134, 1172, 1173, 1174, 1175, 1176, 1177, 1178, 1179, 1180, 1181, 1182, 1183, 1184, 1185, 1186, 1187, 1188, 1189, 1190, 1191, 1192, 1193, 1194, 1195, 1196, 1197, 1198, 1199, 1200, 1201, 1202, 1203, 1204, 1205, 1206, 1207, 1208, 1209, 1210, 1211, 1212, 1213, 1214, 1215, 1216, 1217, 1218] rfl (by decide +kernel)
set_option maxRecDepth 20000 in
theorem gL_law_X8_isPlain : GoodIn wsL_law (wsV RL 175 RX8 yX8_isPlain wsX8_isPlain) := goodIn_app (goodIn_of _ (by decide +kernel)) ggL_law_X8_isPlain
set_option maxRecDepth 20000 in
theorem ggL_law_L_answer : GoodIn wsL_law wsL_answer := goodIn_ca (goodIn_ca (goodIn_r _ [813, 387, 170, 814, 815, 816, 2, 817, 176, 177, 32, 393, 394, 395, 396, 397, 398, 20, 818, 819, 820, 821, 822, 823, 824, 17, 14, 15, 825, 826, 827, 31, 828, 102, 829, 223, 224, 225, 100, 99, 830, 278, 279, 280, 103, 113, 831, 832, 833, 834, 835, 836, 837, 105, 106, 107, 108, 256, 257, 305, 306, 303, 304, 258, 259, 838, 839, 840, 841, 842, 843, 109, 844, 408, 409, 845, 846, 847, 848, 849, 850, 851, 852, 853, 854, 855, 856, 857, 858, 859, 860, 861, 862, 863, 864, 865, 866, 867, 868, 869, 870, 871, 872, 873, 874, 875, 876, 104, 110, 111, 112, 877, 878, 879, 880, 881, 882, 883, 884, 885, 886, 887, 888, 889, 890, 891, 892, 893, 894, 895, 896, 897, 898, 899, 900, 901, 902, 903, 904, 905, 906, 907, 908, 909, 910, 911, 912, 913, 914, 915, 916, 917, 918, 919, 1164, 1165, 1166, 1167, 1168, 1169, 1170, 1171, 1248, 1249, 1250, 1251, 1252, 1253, 1254, 1255, 1256, 1257, 1258, 1259, 1260, 1261, 1219, 1220, 1221, 1268, 1269, 1270] (by exact rfl) (by decide +kernel)) (goodIn_sub (fun _ h => List.mem_append_left _ (List.mem_append_left _ (List.mem_append_right _ h))) (by decide +kernel))) (goodIn_sub (fun _ h => List.mem_append_right _ h) (by decide +kernel))
set_option maxRecDepth 20000 in
theorem gL_law_L_answer : GoodIn wsL_law (va_wsS RL 176 yL_answer wsL_answer) := goodIn_app (goodIn_of _ (by decide +kernel)) ggL_law_L_answer
set_option maxRecDepth 20000 in
theorem ggL_law_X8_answer : GoodIn wsL_law wsX8_answer := goodIn_r _ [923, 419, 420, 421, 5, 422, 315, 188, 189, 190, 191, 192, 193, 194, 195, 924, 925, 926, 927, 156, 928, 160, 161, 162, 929, 930, 931, 932, 933, 187, 130, 135, 134, 131, 431, 432, 433, 434, 129, 934, 935, 936, 937, 127, 938, 939, 940, 941, 133, 132, 942, 943, 944, 945, 946, 947, 948, 949, 950, 951, 952, 953, 954, 955, 956, 957, 958, 959, 960, 961, 128, 962, 963, 964, 965, 966, 967, 968, 969, 1172, 1173, 1174, 1175, 1176, 1177, 1178, 1179, 1180, 1181, 1182, 1183, 1184, 1185, 1186, 1187, 1188, 1189, 1190, 1191, 1192, 1193, 1194, 1195, 1196, 1197, 1198, 1199, 1200, 1201, 1202, 1203, 1204, 1205, 1206, 1207, 1208, 1209, 1210, 1211, 1212, 1213, 1214, 1215, 1216, 1217, 1218] rfl (by decide +kernel)
set_option maxRecDepth 20000 in
theorem gL_law_X8_answer : GoodIn wsL_law (wsV RL 179 RX8 yX8_answer wsX8_answer) := goodIn_app (goodIn_of _ (by decide +kernel)) ggL_law_X8_answer
set_option maxRecDepth 20000 in
theorem ggL_law_L_answers : GoodIn wsL_law wsL_answers := goodIn_ca (goodIn_r _ [972, 387, 973, 974, 975, 2, 976, 32, 393, 394, 395, 396, 397, 398, 20, 821, 822, 823, 824, 17, 14, 15, 825, 826, 827, 31, 828, 102, 829, 223, 224, 225, 100, 99, 830, 278, 279, 280, 103, 113, 831, 832, 833, 834, 835, 836, 837, 105, 106, 107, 108, 256, 257, 305, 306, 303, 304, 258, 259, 838, 839, 840, 841, 842, 843, 109, 844, 408, 409, 845, 846, 847, 848, 849, 850, 851, 852, 853, 854, 855, 856, 857, 858, 859, 860, 861, 862, 863, 864, 865, 866, 867, 868, 869, 870, 871, 872, 873, 874, 875, 876, 104, 110, 111, 112, 877, 878, 879, 880, 881, 882, 883, 884, 885, 886, 887, 888, 889, 890, 891, 892, 893, 894, 895, 896, 897, 898, 899, 900, 901, 902, 903, 904, 905, 906, 907, 908, 909, 910, 911, 912, 913, 914, 915, 1164, 1165, 1166, 1167, 1168, 1169, 1170, 1171, 1248, 1249, 1250, 1251, 1252, 1253, 1254, 1255, 1256, 1257, 1258, 1259, 1260, 1261, 1219, 1220, 1221, 1268, 1269, 1270] (by exact rfl) (by decide +kernel)) (goodIn_sub (fun _ h => List.mem_append_right _ h) (by decide +kernel))
set_option maxRecDepth 20000 in
theorem gL_law_L_answers : GoodIn wsL_law (va_wsS RL 180 yL_answers wsL_answers) := goodIn_app (goodIn_of _ (by decide +kernel)) ggL_law_L_answers
set_option maxRecDepth 20000 in
theorem ggL_law_X8_answers : GoodIn wsL_law wsX8_answers := goodIn_r _ [980, 419, 420, 421, 5, 422, 315, 188, 189, 190, 191, 192, 193, 194, 195, 924, 925, 926, 927, 156, 928, 160, 161, 162, 929, 930, 931, 932, 933, 187, 130, 135, 134, 131, 431, 432, 433, 434, 129, 934, 935, 936, 937, 127, 938, 939, 940, 941, 133, 132, 942, 943, 944, 945, 946, 947, 948, 949, 950, 951, 952, 953, 954, 955, 956, 957, 958, 959, 960, 961, 128, 962, 963, 964, 965, 1172, 1173, 1174, 1175, 1176, 1177, 1178, 1179, 1180, 1181, 1182, 1183, 1184, 1185, 1186, 1187, 1188, 1189, 1190, 1191, 1192, 1193, 1194, 1195, 1196, 1197, 1198, 1199, 1200, 1201, 1202, 1203, 1204, 1205, 1206, 1207, 1208, 1209, 1210, 1211, 1212, 1213, 1214, 1215, 1216, 1217, 1218] rfl (by decide +kernel)
set_option maxRecDepth 20000 in
theorem gL_law_X8_answers : GoodIn wsL_law (wsV RL 182 RX8 yX8_answers wsX8_answers) := goodIn_app (goodIn_of _ (by decide +kernel)) ggL_law_X8_answers
set_option maxRecDepth 20000 in
theorem ggL_law_L_cost : GoodIn wsL_law wsL_cost := goodIn_ca (goodIn_r _ [983, 387, 984, 985, 986, 2, 987, 32, 393, 394, 395, 396, 397, 398, 20, 821, 822, 823, 824, 17, 14, 15, 825, 826, 827, 31, 828, 102, 829, 223, 224, 225, 100, 99, 830, 278, 279, 280, 103, 113, 831, 832, 833, 834, 835, 836, 837, 105, 106, 107, 108, 256, 257, 305, 306, 303, 304, 258, 259, 838, 839, 840, 841, 842, 843, 109, 844, 408, 409, 845, 846, 847, 848, 849, 850, 851, 852, 853, 854, 855, 856, 857, 858, 859, 860, 861, 862, 863, 864, 865, 866, 867, 868, 869, 870, 871, 872, 988, 989, 990, 991, 1164, 1165, 1166, 1167, 1168, 1169, 1170, 1171, 1248, 1249, 1250, 1251, 1252, 1253, 1254, 1255, 1256, 1257, 1258, 1259, 1260, 1261, 1219, 1220, 1221, 1268, 1269, 1270] (by exact rfl) (by decide +kernel)) (goodIn_sub (fun _ h => List.mem_append_right _ h) (by decide +kernel))
set_option maxRecDepth 20000 in
theorem gL_law_L_cost : GoodIn wsL_law (va_wsS RL 183 yL_cost wsL_cost) := goodIn_app (goodIn_of _ (by decide +kernel)) ggL_law_L_cost
set_option maxRecDepth 20000 in
theorem ggL_law_X8_cost : GoodIn wsL_law wsX8_cost := goodIn_r _ [995, 156, 928, 419, 420, 421, 5, 422, 315, 188, 189, 190, 191, 192, 193, 194, 195, 930, 931, 932, 933, 187, 130, 135, 134, 131, 431, 432, 433, 434, 129, 934, 935, 936, 937, 127, 938, 939, 940, 941, 133, 132, 1172, 1173, 1174, 1175, 1176, 1177, 1178, 1179, 1180, 1181, 1182, 1183, 1184, 1185, 1186, 1187, 1188, 1189, 1190, 1191, 1192, 1193, 1194, 1195, 1196, 1197, 1198, 1199, 1200, 1201, 1202, 1203, 1204, 1205, 1206, 1207, 1208, 1209, 1210, 1211, 1212, 1213, 1214, 1215, 1216, 1217, 1218] rfl (by decide +kernel)
set_option maxRecDepth 20000 in
theorem gL_law_X8_cost : GoodIn wsL_law (wsV RL 185 RX8 yX8_cost wsX8_cost) := goodIn_app (goodIn_of _ (by decide +kernel)) ggL_law_X8_cost
set_option maxRecDepth 20000 in
theorem ggL_law_L_best : GoodIn wsL_law wsL_best := goodIn_ca (goodIn_r _ [998, 387, 999, 1000, 1001, 2, 1002, 32, 393, 394, 395, 396, 397, 398, 20, 818, 819, 820, 821, 822, 823, 824, 17, 14, 15, 825, 826, 827, 31, 828, 102, 829, 223, 224, 225, 100, 99, 830, 278, 279, 280, 103, 113, 831, 832, 833, 834, 835, 836, 837, 105, 106, 107, 108, 256, 257, 305, 306, 303, 304, 258, 259, 838, 839, 840, 841, 842, 843, 109, 844, 408, 409, 845, 846, 847, 848, 849, 850, 851, 852, 853, 854, 855, 856, 857, 858, 859, 860, 861, 862, 863, 864, 865, 866, 867, 868, 869, 870, 871, 872, 873, 874, 875, 876, 104, 110, 111, 112, 877, 878, 879, 880, 881, 882, 883, 884, 885, 886, 887, 888, 889, 890, 891, 892, 893, 894, 895, 896, 897, 898, 899, 900, 901, 902, 903, 904, 905, 906, 907, 908, 909, 910, 911, 912, 913, 914, 915, 916, 917, 918, 919, 1164, 1165, 1166, 1167, 1168, 1169, 1170, 1171, 1248, 1249, 1250, 1251, 1252, 1253, 1254, 1255, 1256, 1257, 1258, 1259, 1260, 1261, 1219, 1220, 1221, 1268, 1269, 1270] (by exact rfl) (by decide +kernel)) (goodIn_sub (fun _ h => List.mem_append_right _ h) (by decide +kernel))
set_option maxRecDepth 20000 in
theorem gL_law_L_best : GoodIn wsL_law (va_wsS RL 186 yL_best wsL_best) := goodIn_app (goodIn_of _ (by decide +kernel)) ggL_law_L_best
set_option maxRecDepth 20000 in
theorem ggL_law_X8_best : GoodIn wsL_law wsX8_best := goodIn_r _ [1006, 156, 928, 419, 420, 421, 5, 422, 315, 188, 189, 190, 191, 192, 193, 194, 195, 930, 931, 932, 933, 187, 130, 135, 134, 131, 431, 432, 433, 434, 129, 934, 935, 936, 937, 127, 938, 939, 940, 941, 133, 132, 1007, 1008, 1009, 1010, 929, 162, 1011, 1012, 1013, 1014, 157, 158, 1015, 1016, 1017, 1018, 950, 951, 952, 953, 1019, 1020, 1021, 1022, 128, 1023, 1024, 1025, 1026, 966, 967, 968, 969, 1172, 1173, 1174, 1175, 1176, 1177, 1178, 1179, 1180, 1181, 1182, 1183, 1184, 1185, 1186, 1187, 1188, 1189, 1190, 1191, 1192, 1193, 1194, 1195, 1196, 1197, 1198, 1199, 1200, 1201, 1202, 1203, 1204, 1205, 1206, 1207, 1208, 1209, 1210, 1211, 1212, 1213, 1214, 1215, 1216, 1217, 1218] rfl (by decide +kernel)
set_option maxRecDepth 20000 in
theorem gL_law_X8_best : GoodIn wsL_law (wsV RL 189 RX8 yX8_best wsX8_best) := goodIn_app (goodIn_of _ (by decide +kernel)) ggL_law_X8_best
set_option maxRecDepth 20000 in
theorem ggL_law_L_changes : GoodIn wsL_law wsL_changes := goodIn_ca (goodIn_r _ [1029, 387, 1030, 1031, 1032, 2, 1033, 32, 17, 14, 15, 393, 394, 395, 396, 397, 398, 20, 825, 826, 827, 31, 828, 102, 829, 223, 224, 225, 100, 99, 830, 278, 279, 280, 103, 113, 831, 832, 833, 834, 835, 836, 837, 105, 106, 107, 108, 256, 257, 305, 306, 303, 304, 258, 259, 838, 839, 840, 841, 842, 843, 109, 844, 408, 409, 845, 846, 847, 848, 849, 850, 851, 852, 853, 854, 855, 856, 857, 858, 859, 860, 861, 862, 863, 864, 865, 866, 867, 868, 869, 870, 871, 872, 988, 989, 990, 991, 1164, 1165, 1166, 1167, 1168, 1169, 1170, 1171, 1248, 1249, 1250, 1251, 1252, 1253, 1254, 1255, 1256, 1257, 1258, 1259, 1260, 1261, 1219, 1220, 1221, 1268, 1269, 1270] (by exact rfl) (by decide +kernel)) (goodIn_sub (fun _ h => List.mem_append_right _ h) (by decide +kernel))
set_option maxRecDepth 20000 in
theorem gL_law_L_changes : GoodIn wsL_law (va_wsS RL 190 yL_changes wsL_changes) := goodIn_app (goodIn_of _ (by decide +kernel)) ggL_law_L_changes
set_option maxRecDepth 20000 in
theorem ggL_law_X8_changes : GoodIn wsL_law wsX8_changes := goodIn_r _ [1037, 156, 928, 419, 420, 421, 5, 422, 315, 188, 189, 190, 191, 192, 193, 194, 195, 1038, 1039, 1040, 1041, 187, 130, 132, 135, 131, 431, 432, 433, 434, 129, 1042, 1043, 1044, 1045, 1046, 1047, 1048, 1049, 1050, 1051, 1052, 127, 1172, 1173, 1174, 1175, 1176, 1177, 1178, 1179, 1180, 1181, 1182, 1183, 1184, 1185, 1186, 1187, 1188, 1189, 1190, 1191, 1192, 1193, 1194, 1195, 1196, 1197, 1198, 1199, 1200, 1201, 1202, 1203, 1204, 1205, 1206, 1207, 1208, 1209, 1210, 1211, 1212, 1213, 1214, 1215, 1216, 1217, 1218] rfl (by decide +kernel)
set_option maxRecDepth 20000 in
theorem gL_law_X8_changes : GoodIn wsL_law (wsV RL 192 RX8 yX8_changes wsX8_changes) := goodIn_app (goodIn_of _ (by decide +kernel)) ggL_law_X8_changes
set_option maxRecDepth 20000 in
theorem ggL_law_L_mended : GoodIn wsL_law wsL_mended := goodIn_ca (goodIn_r _ [1055, 387, 1056, 1057, 1058, 2, 1059, 32, 17, 14, 15, 393, 394, 395, 396, 397, 398, 20, 818, 819, 820, 825, 826, 827, 31, 828, 102, 829, 223, 224, 225, 100, 99, 830, 278, 279, 280, 103, 113, 831, 832, 833, 834, 835, 836, 837, 105, 106, 107, 108, 256, 257, 305, 306, 303, 304, 258, 259, 838, 839, 840, 841, 842, 843, 109, 844, 408, 409, 845, 846, 847, 848, 849, 850, 851, 852, 853, 854, 855, 856, 857, 858, 859, 860, 861, 862, 863, 864, 865, 866, 867, 868, 869, 870, 871, 872, 873, 874, 875, 876, 104, 110, 111, 112, 877, 878, 879, 880, 881, 882, 883, 884, 885, 886, 887, 888, 889, 890, 891, 892, 893, 894, 895, 896, 897, 898, 899, 900, 901, 902, 903, 904, 905, 906, 907, 908, 909, 910, 911, 912, 913, 914, 915, 916, 917, 918, 919, 1164, 1165, 1166, 1167, 1168, 1169, 1170, 1171, 1248, 1249, 1250, 1251, 1252, 1253, 1254, 1255, 1256, 1257, 1258, 1259, 1260, 1261, 1219, 1220, 1221, 1268, 1269, 1270] (by exact rfl) (by decide +kernel)) (goodIn_sub (fun _ h => List.mem_append_right _ h) (by decide +kernel))
set_option maxRecDepth 20000 in
theorem gL_law_L_mended : GoodIn wsL_law (va_wsS RL 193 yL_mended wsL_mended) := goodIn_app (goodIn_of _ (by decide +kernel)) ggL_law_L_mended
set_option maxRecDepth 20000 in
theorem ggL_law_X8_mended : GoodIn wsL_law wsX8_mended := goodIn_r _ [1063, 156, 928, 419, 420, 421, 5, 422, 315, 188, 189, 190, 191, 192, 193, 194, 195, 1038, 1039, 1040, 1041, 187, 130, 132, 135, 131, 431, 432, 433, 434, 129, 1042, 1043, 1044, 1045, 1046, 1047, 1048, 1049, 1050, 1051, 1052, 127, 1064, 1065, 1066, 1067, 929, 162, 1011, 1012, 1013, 1014, 157, 158, 1068, 1069, 1070, 1071, 1019, 1020, 1021, 1022, 128, 1072, 1073, 1074, 1075, 966, 967, 968, 969, 1172, 1173, 1174, 1175, 1176, 1177, 1178, 1179, 1180, 1181, 1182, 1183, 1184, 1185, 1186, 1187, 1188, 1189, 1190, 1191, 1192, 1193, 1194, 1195, 1196, 1197, 1198, 1199, 1200, 1201, 1202, 1203, 1204, 1205, 1206, 1207, 1208, 1209, 1210, 1211, 1212, 1213, 1214, 1215, 1216, 1217, 1218] rfl (by decide +kernel)
set_option maxRecDepth 20000 in
theorem gL_law_X8_mended : GoodIn wsL_law (wsV RL 195 RX8 yX8_mended wsX8_mended) := goodIn_app (goodIn_of _ (by decide +kernel)) ggL_law_X8_mended
set_option maxRecDepth 20000 in
theorem ggL_law_L_apart : GoodIn wsL_law wsL_apart := goodIn_ca (goodIn_ca (goodIn_r _ [1078, 387, 171, 1079, 1080, 1081, 2, 1082, 28, 17, 393, 394, 395, 396, 397, 398, 20, 818, 819, 820, 555, 556, 557, 558, 178, 179, 559, 560, 561, 19, 562, 43, 461, 462, 563, 303, 304, 305, 306, 717, 718, 719, 27, 720, 76, 77, 78, 568, 569, 570, 75, 571, 572, 94, 573, 95, 93, 574, 575, 576, 92, 577, 578, 579, 580, 256, 257, 258, 259, 585, 586, 587, 588, 84, 79, 80, 81, 589, 590, 591, 592, 593, 594, 595, 596, 82, 83, 597, 598, 599, 600, 408, 409, 601, 602, 603, 604, 605, 606, 607, 608, 609, 610, 611, 1083, 1084, 1085, 1086, 620, 621, 622, 623, 624, 625, 626, 627, 1087, 1088, 1089, 1090, 1091, 1092, 1093, 1094, 1164, 1165, 1166, 1167, 1168, 1169, 1170, 1171, 1219, 1220, 1221, 1268, 1269, 1270, 1235, 1236, 1237, 1238, 1239, 1240, 1241, 1242, 1243, 1244, 1245, 1246, 1247, 1271, 1272, 1273, 1274] (by exact rfl) (by decide +kernel)) (goodIn_sub (fun _ h => List.mem_append_right _ h) (by decide +kernel))) (goodIn_sub (fun _ h => List.mem_append_left _ (List.mem_append_right _ h)) (by decide +kernel))
set_option maxRecDepth 20000 in
theorem gL_law_L_apart : GoodIn wsL_law (va_wsS RL 196 yL_apart wsL_apart) := goodIn_app (goodIn_of _ (by decide +kernel)) ggL_law_L_apart
set_option maxRecDepth 20000 in
theorem ggL_law_X8_apart : GoodIn wsL_law wsX8_apart := goodIn_r _ [1098, 674, 152, 153, 419, 420, 421, 5, 422, 315, 188, 189, 190, 666, 667, 668, 669, 130, 132, 133, 134, 675, 676, 677, 678, 149, 150, 151, 679, 680, 681, 682, 131, 135, 683, 684, 685, 686, 687, 688, 689, 690, 691, 692, 693, 191, 192, 193, 194, 195, 694, 695, 696, 697, 129, 1172, 1173, 1174, 1175, 1176, 1177, 1178, 1179, 1180, 1181, 1182, 1183, 1184, 1185, 1186, 1187, 1188, 1189, 1190, 1191, 1192, 1193, 1194, 1195, 1196, 1197, 1198, 1199, 1200, 1201, 1202, 1203, 1204, 1205, 1206, 1207, 1208, 1209, 1210, 1211, 1212, 1213, 1214, 1215, 1216, 1217, 1218] rfl (by decide +kernel)
set_option maxRecDepth 20000 in
theorem gL_law_X8_apart : GoodIn wsL_law (wsV RL 198 RX8 yX8_apart wsX8_apart) := goodIn_app (goodIn_of _ (by decide +kernel)) ggL_law_X8_apart
set_option maxRecDepth 20000 in
theorem ggL_law_L_ruled : GoodIn wsL_law wsL_ruled := goodIn_ca (goodIn_ca (goodIn_r _ [1101, 387, 170, 1102, 1103, 1104, 2, 1105, 15, 14, 818, 819, 820, 397, 398, 732, 733, 734, 176, 177, 180, 181, 182, 215, 216, 217, 735, 736, 737, 1106, 1107, 1108, 1109, 1164, 1165, 1166, 1167, 1168, 1169, 1170, 1171] (by exact rfl) (by decide +kernel)) (goodIn_sub (fun _ h => List.mem_append_right _ h) (by decide +kernel))) (goodIn_sub (fun _ h => List.mem_append_left _ (List.mem_append_left _ (List.mem_append_right _ h))) (by decide +kernel))
set_option maxRecDepth 20000 in
theorem gL_law_L_ruled : GoodIn wsL_law (va_wsS RL 199 yL_ruled wsL_ruled) := goodIn_app (goodIn_of _ (by decide +kernel)) ggL_law_L_ruled
set_option maxRecDepth 20000 in
theorem ggL_law_X8_ruled : GoodIn wsL_law wsX8_ruled := goodIn_r _ [1113, 187, 127, 756, 757, 5, 758, 188, 189, 190, 191, 192, 193, 194, 195, 1172, 1173, 1174, 1175, 1176, 1177, 1178, 1179, 1180, 1181, 1182, 1183, 1184, 1185, 1186, 1187, 1188, 1189, 1190, 1191, 1192, 1193, 1194, 1195, 1196, 1197, 1198, 1199, 1200, 1201, 1202, 1203, 1204, 1205, 1206, 1207, 1208, 1209, 1210, 1211, 1212, 1213, 1214, 1215, 1216, 1217, 1218] rfl (by decide +kernel)
set_option maxRecDepth 20000 in
theorem gL_law_X8_ruled : GoodIn wsL_law (wsV RL 202 RX8 yX8_ruled wsX8_ruled) := goodIn_app (goodIn_of _ (by decide +kernel)) ggL_law_X8_ruled
set_option maxRecDepth 20000 in
theorem ggL_law_L_learn : GoodIn wsL_law wsL_learn := goodIn_ca (goodIn_ca (goodIn_r _ [1116, 170, 171, 1117, 1118, 1119, 2, 1120, 176, 177, 178, 179, 36, 1121, 14, 15, 1122, 1123, 1124, 35, 1125, 122, 117, 1126, 278, 279, 280, 118, 119, 1164, 1165, 1166, 1167, 1168, 1169, 1170, 1171, 1262, 1263, 1264, 1265, 1266, 1267] (by exact rfl) (by decide +kernel)) (goodIn_sub (fun _ h => List.mem_append_left _ (List.mem_append_left _ (List.mem_append_right _ h))) (by decide +kernel))) (goodIn_sub (fun _ h => List.mem_append_left _ (List.mem_append_right _ h)) (by decide +kernel))
set_option maxRecDepth 20000 in
theorem gL_law_L_learn : GoodIn wsL_law (va_wsS RL 203 yL_learn wsL_learn) := goodIn_app (goodIn_of _ (by decide +kernel)) ggL_law_L_learn
set_option maxRecDepth 20000 in
theorem ggL_law_X8_learn : GoodIn wsL_law wsX8_learn := goodIn_r _ [1130, 1131, 187, 163, 127, 164, 165, 188, 189, 5, 190, 191, 192, 193, 194, 195, 1172, 1173, 1174, 1175, 1176, 1177, 1178, 1179, 1180, 1181, 1182, 1183, 1184, 1185, 1186, 1187, 1188, 1189, 1190, 1191, 1192, 1193, 1194, 1195, 1196, 1197, 1198, 1199, 1200, 1201, 1202, 1203, 1204, 1205, 1206, 1207, 1208, 1209, 1210, 1211, 1212, 1213, 1214, 1215, 1216, 1217, 1218] rfl (by decide +kernel)
set_option maxRecDepth 20000 in
theorem gL_law_X8_learn : GoodIn wsL_law (wsV RL 205 RX8 yX8_learn wsX8_learn) := goodIn_app (goodIn_of _ (by decide +kernel)) ggL_law_X8_learn
set_option maxRecDepth 20000 in
theorem ggL_law_X7_guess : GoodIn wsL_law wsX7_guess := goodIn_r _ [1135, 36, 14, 15, 1136, 1137, 1138, 35, 1139, 122, 120, 1140, 1141, 224, 1142, 121, 1143, 223, 225, 1144, 1145, 1146, 1147, 118, 117, 1148, 1149, 1150, 1151, 119, 1152, 1153, 1154, 1155, 1164, 1165, 1166, 1167, 1168, 1169, 1170, 1171, 1262, 1263, 1264, 1265, 1266, 1267] rfl (by decide +kernel)
set_option maxRecDepth 20000 in
theorem gL_law_X7_guess : GoodIn wsL_law (wsV RL 206 RX7 yX7_guess wsX7_guess) := goodIn_app (goodIn_of _ (by decide +kernel)) ggL_law_X7_guess
set_option maxRecDepth 20000 in
theorem ggL_law_X8_guess : GoodIn wsL_law wsX8_guess := goodIn_r _ [1159, 195, 1131, 165, 1160, 1161, 1162, 5, 1163, 187, 164, 163, 127, 1046, 1047, 1048, 1172, 1173, 1174, 1175, 1176, 1177, 1178, 1179, 1180, 1181, 1182, 1183, 1184, 1185, 1186, 1187, 1188, 1189, 1190, 1191, 1192, 1193, 1194, 1195, 1196, 1197, 1198, 1199, 1200, 1201, 1202, 1203, 1204, 1205, 1206, 1207, 1208, 1209, 1210, 1211, 1212, 1213, 1214, 1215, 1216, 1217, 1218] rfl (by decide +kernel)
set_option maxRecDepth 20000 in
theorem gL_law_X8_guess : GoodIn wsL_law (wsV RL 209 RX8 yX8_guess wsX8_guess) := goodIn_app (goodIn_of _ (by decide +kernel)) ggL_law_X8_guess
theorem dL_law_0 : decode cL_law 0 = .ok (.new 8, 3) := by decide +kernel
theorem dL_law_3 : decode cL_law 3 = .ok (.dup, 1) := by decide +kernel
theorem dL_law_4 : decode cL_law 4 = .ok (.invokespecial 105, 3) := by decide +kernel
theorem dL_law_7 : decode cL_law 7 = .ok (.astore_n 1, 1) := by decide +kernel
theorem dL_law_8 : decode cL_law 8 = .ok (.new 106, 3) := by decide +kernel
theorem dL_law_11 : decode cL_law 11 = .ok (.dup, 1) := by decide +kernel
theorem dL_law_12 : decode cL_law 12 = .ok (.invokespecial 108, 3) := by decide +kernel
theorem dL_law_15 : decode cL_law 15 = .ok (.astore_n 2, 1) := by decide +kernel
theorem dL_law_16 : decode cL_law 16 = .ok (.iconst 1, 1) := by decide +kernel
theorem dL_law_17 : decode cL_law 17 = .ok (.newarray .long, 2) := by decide +kernel
theorem dL_law_19 : decode cL_law 19 = .ok (.astore_n 3, 1) := by decide +kernel
theorem dL_law_20 : decode cL_law 20 = .ok (.iconst 0, 1) := by decide +kernel
theorem dL_law_21 : decode cL_law 21 = .ok (.istore 4, 2) := by decide +kernel
theorem dL_law_23 : decode cL_law 23 = .ok (.iload 4, 2) := by decide +kernel
theorem dL_law_25 : decode cL_law 25 = .ok (.aload_n 0, 1) := by decide +kernel
theorem dL_law_26 : decode cL_law 26 = .ok (.arraylength, 1) := by decide +kernel
theorem dL_law_27 : decode cL_law 27 = .ok (.bipush 6, 2) := by decide +kernel
theorem dL_law_29 : decode cL_law 29 = .ok (.isub, 1) := by decide +kernel
theorem dL_law_30 : decode cL_law 30 = .ok (.if_icmp .gt 2076, 3) := by decide +kernel
theorem dL_law_33 : decode cL_law 33 = .ok (.aload_n 0, 1) := by decide +kernel
theorem dL_law_34 : decode cL_law 34 = .ok (.iload 4, 2) := by decide +kernel
theorem dL_law_36 : decode cL_law 36 = .ok (.iaload, 1) := by decide +kernel
theorem dL_law_37 : decode cL_law 37 = .ok (.bipush 31, 2) := by decide +kernel
theorem dL_law_39 : decode cL_law 39 = .ok (.iand, 1) := by decide +kernel
theorem dL_law_40 : decode cL_law 40 = .ok (.tableswitch 2060 0 27 #[128, 184, 197, 277, 321, 365, 433, 501, 557, 613, 681, 765, 821, 917, 1037, 1093, 1168, 1248, 1311, 1419, 1503, 1587, 1683, 1739, 1807, 1887, 1991, 2047], 128) := by decide +kernel
theorem dL_law_168 : decode cL_law 168 = .ok (.aload_n 1, 1) := by decide +kernel
theorem dL_law_169 : decode cL_law 169 = .ok (.aload_n 0, 1) := by decide +kernel
theorem dL_law_170 : decode cL_law 170 = .ok (.iload 4, 2) := by decide +kernel
theorem dL_law_172 : decode cL_law 172 = .ok (.iconst 1, 1) := by decide +kernel
theorem dL_law_173 : decode cL_law 173 = .ok (.iadd, 1) := by decide +kernel
theorem dL_law_174 : decode cL_law 174 = .ok (.iaload, 1) := by decide +kernel
theorem dL_law_175 : decode cL_law 175 = .ok (.aload_n 3, 1) := by decide +kernel
theorem dL_law_176 : decode cL_law 176 = .ok (.invokestatic 109, 3) := by decide +kernel
theorem dL_law_179 : decode cL_law 179 = .ok (.istore 5, 2) := by decide +kernel
theorem dL_law_181 : decode cL_law 181 = .ok (.aload_n 2, 1) := by decide +kernel
theorem dL_law_182 : decode cL_law 182 = .ok (.aload_n 0, 1) := by decide +kernel
theorem dL_law_183 : decode cL_law 183 = .ok (.iload 4, 2) := by decide +kernel
theorem dL_law_185 : decode cL_law 185 = .ok (.iconst 1, 1) := by decide +kernel
theorem dL_law_186 : decode cL_law 186 = .ok (.iadd, 1) := by decide +kernel
theorem dL_law_187 : decode cL_law 187 = .ok (.iaload, 1) := by decide +kernel
theorem dL_law_188 : decode cL_law 188 = .ok (.invokevirtual 114, 3) := by decide +kernel
theorem dL_law_191 : decode cL_law 191 = .ok (.istore 6, 2) := by decide +kernel
theorem dL_law_193 : decode cL_law 193 = .ok (.aload_n 2, 1) := by decide +kernel
theorem dL_law_194 : decode cL_law 194 = .ok (.invokevirtual 115, 3) := by decide +kernel
theorem dL_law_197 : decode cL_law 197 = .ok (.iload 5, 2) := by decide +kernel
theorem dL_law_199 : decode cL_law 199 = .ok (.if_icmp .eq 5, 3) := by decide +kernel
theorem dL_law_202 : decode cL_law 202 = .ok (.iconst 0, 1) := by decide +kernel
theorem dL_law_203 : decode cL_law 203 = .ok (.ireturn, 1) := by decide +kernel
theorem dL_law_204 : decode cL_law 204 = .ok (.iload 5, 2) := by decide +kernel
theorem dL_law_206 : decode cL_law 206 = .ok (.ifCond .ne 15, 3) := by decide +kernel
theorem dL_law_209 : decode cL_law 209 = .ok (.aload_n 3, 1) := by decide +kernel
theorem dL_law_210 : decode cL_law 210 = .ok (.iconst 0, 1) := by decide +kernel
theorem dL_law_211 : decode cL_law 211 = .ok (.laload, 1) := by decide +kernel
theorem dL_law_212 : decode cL_law 212 = .ok (.iload 6, 2) := by decide +kernel
theorem dL_law_214 : decode cL_law 214 = .ok (.i2l, 1) := by decide +kernel
theorem dL_law_215 : decode cL_law 215 = .ok (.lcmp, 1) := by decide +kernel
theorem dL_law_216 : decode cL_law 216 = .ok (.ifCond .eq 5, 3) := by decide +kernel
theorem dL_law_219 : decode cL_law 219 = .ok (.iconst 0, 1) := by decide +kernel
theorem dL_law_220 : decode cL_law 220 = .ok (.ireturn, 1) := by decide +kernel
theorem dL_law_221 : decode cL_law 221 = .ok (.goto 1879, 3) := by decide +kernel
theorem dL_law_224 : decode cL_law 224 = .ok (.aload_n 1, 1) := by decide +kernel
theorem dL_law_225 : decode cL_law 225 = .ok (.invokevirtual 118, 3) := by decide +kernel
theorem dL_law_228 : decode cL_law 228 = .ok (.aload_n 2, 1) := by decide +kernel
theorem dL_law_229 : decode cL_law 229 = .ok (.invokevirtual 121, 3) := by decide +kernel
theorem dL_law_232 : decode cL_law 232 = .ok (.if_icmp .eq 1868, 3) := by decide +kernel
theorem dL_law_235 : decode cL_law 235 = .ok (.iconst 0, 1) := by decide +kernel
theorem dL_law_236 : decode cL_law 236 = .ok (.ireturn, 1) := by decide +kernel
theorem dL_law_237 : decode cL_law 237 = .ok (.aload_n 1, 1) := by decide +kernel
theorem dL_law_238 : decode cL_law 238 = .ok (.aload_n 0, 1) := by decide +kernel
theorem dL_law_239 : decode cL_law 239 = .ok (.iload 4, 2) := by decide +kernel
theorem dL_law_241 : decode cL_law 241 = .ok (.iconst 1, 1) := by decide +kernel
theorem dL_law_242 : decode cL_law 242 = .ok (.iadd, 1) := by decide +kernel
theorem dL_law_243 : decode cL_law 243 = .ok (.iaload, 1) := by decide +kernel
theorem dL_law_244 : decode cL_law 244 = .ok (.aload_n 0, 1) := by decide +kernel
theorem dL_law_245 : decode cL_law 245 = .ok (.iload 4, 2) := by decide +kernel
theorem dL_law_247 : decode cL_law 247 = .ok (.iconst 2, 1) := by decide +kernel
theorem dL_law_248 : decode cL_law 248 = .ok (.iadd, 1) := by decide +kernel
theorem dL_law_249 : decode cL_law 249 = .ok (.iaload, 1) := by decide +kernel
theorem dL_law_250 : decode cL_law 250 = .ok (.aload_n 0, 1) := by decide +kernel
theorem dL_law_251 : decode cL_law 251 = .ok (.iload 4, 2) := by decide +kernel
theorem dL_law_253 : decode cL_law 253 = .ok (.iconst 3, 1) := by decide +kernel
theorem dL_law_254 : decode cL_law 254 = .ok (.iadd, 1) := by decide +kernel
theorem dL_law_255 : decode cL_law 255 = .ok (.iaload, 1) := by decide +kernel
theorem dL_law_256 : decode cL_law 256 = .ok (.aload_n 3, 1) := by decide +kernel
theorem dL_law_257 : decode cL_law 257 = .ok (.invokestatic 122, 3) := by decide +kernel
theorem dL_law_260 : decode cL_law 260 = .ok (.istore 5, 2) := by decide +kernel
theorem dL_law_262 : decode cL_law 262 = .ok (.aload_n 2, 1) := by decide +kernel
theorem dL_law_263 : decode cL_law 263 = .ok (.aload_n 0, 1) := by decide +kernel
theorem dL_law_264 : decode cL_law 264 = .ok (.iload 4, 2) := by decide +kernel
theorem dL_law_266 : decode cL_law 266 = .ok (.iconst 1, 1) := by decide +kernel
theorem dL_law_267 : decode cL_law 267 = .ok (.iadd, 1) := by decide +kernel
theorem dL_law_268 : decode cL_law 268 = .ok (.iaload, 1) := by decide +kernel
theorem dL_law_269 : decode cL_law 269 = .ok (.aload_n 0, 1) := by decide +kernel
theorem dL_law_270 : decode cL_law 270 = .ok (.iload 4, 2) := by decide +kernel
theorem dL_law_272 : decode cL_law 272 = .ok (.iconst 2, 1) := by decide +kernel
theorem dL_law_273 : decode cL_law 273 = .ok (.iadd, 1) := by decide +kernel
theorem dL_law_274 : decode cL_law 274 = .ok (.iaload, 1) := by decide +kernel
theorem dL_law_275 : decode cL_law 275 = .ok (.aload_n 0, 1) := by decide +kernel
theorem dL_law_276 : decode cL_law 276 = .ok (.iload 4, 2) := by decide +kernel
theorem dL_law_278 : decode cL_law 278 = .ok (.iconst 3, 1) := by decide +kernel
theorem dL_law_279 : decode cL_law 279 = .ok (.iadd, 1) := by decide +kernel
theorem dL_law_280 : decode cL_law 280 = .ok (.iaload, 1) := by decide +kernel
theorem dL_law_281 : decode cL_law 281 = .ok (.invokevirtual 125, 3) := by decide +kernel
theorem dL_law_284 : decode cL_law 284 = .ok (.istore 6, 2) := by decide +kernel
theorem dL_law_286 : decode cL_law 286 = .ok (.aload_n 2, 1) := by decide +kernel
theorem dL_law_287 : decode cL_law 287 = .ok (.invokevirtual 115, 3) := by decide +kernel
theorem dL_law_290 : decode cL_law 290 = .ok (.iload 5, 2) := by decide +kernel
theorem dL_law_292 : decode cL_law 292 = .ok (.if_icmp .eq 5, 3) := by decide +kernel
theorem dL_law_295 : decode cL_law 295 = .ok (.iconst 0, 1) := by decide +kernel
theorem dL_law_296 : decode cL_law 296 = .ok (.ireturn, 1) := by decide +kernel
theorem dL_law_297 : decode cL_law 297 = .ok (.iload 5, 2) := by decide +kernel
theorem dL_law_299 : decode cL_law 299 = .ok (.ifCond .ne 15, 3) := by decide +kernel
theorem dL_law_302 : decode cL_law 302 = .ok (.aload_n 3, 1) := by decide +kernel
theorem dL_law_303 : decode cL_law 303 = .ok (.iconst 0, 1) := by decide +kernel
theorem dL_law_304 : decode cL_law 304 = .ok (.laload, 1) := by decide +kernel
theorem dL_law_305 : decode cL_law 305 = .ok (.iload 6, 2) := by decide +kernel
theorem dL_law_307 : decode cL_law 307 = .ok (.i2l, 1) := by decide +kernel
theorem dL_law_308 : decode cL_law 308 = .ok (.lcmp, 1) := by decide +kernel
theorem dL_law_309 : decode cL_law 309 = .ok (.ifCond .eq 5, 3) := by decide +kernel
theorem dL_law_312 : decode cL_law 312 = .ok (.iconst 0, 1) := by decide +kernel
theorem dL_law_313 : decode cL_law 313 = .ok (.ireturn, 1) := by decide +kernel
theorem dL_law_314 : decode cL_law 314 = .ok (.goto 1786, 3) := by decide +kernel
theorem dL_law_317 : decode cL_law 317 = .ok (.aload_n 1, 1) := by decide +kernel
theorem dL_law_318 : decode cL_law 318 = .ok (.aload_n 3, 1) := by decide +kernel
theorem dL_law_319 : decode cL_law 319 = .ok (.invokestatic 126, 3) := by decide +kernel
theorem dL_law_322 : decode cL_law 322 = .ok (.istore 5, 2) := by decide +kernel
theorem dL_law_324 : decode cL_law 324 = .ok (.aload_n 2, 1) := by decide +kernel
theorem dL_law_325 : decode cL_law 325 = .ok (.invokevirtual 129, 3) := by decide +kernel
theorem dL_law_328 : decode cL_law 328 = .ok (.istore 6, 2) := by decide +kernel
theorem dL_law_330 : decode cL_law 330 = .ok (.aload_n 2, 1) := by decide +kernel
theorem dL_law_331 : decode cL_law 331 = .ok (.invokevirtual 115, 3) := by decide +kernel
theorem dL_law_334 : decode cL_law 334 = .ok (.iload 5, 2) := by decide +kernel
theorem dL_law_336 : decode cL_law 336 = .ok (.if_icmp .eq 5, 3) := by decide +kernel
theorem dL_law_339 : decode cL_law 339 = .ok (.iconst 0, 1) := by decide +kernel
theorem dL_law_340 : decode cL_law 340 = .ok (.ireturn, 1) := by decide +kernel
theorem dL_law_341 : decode cL_law 341 = .ok (.iload 5, 2) := by decide +kernel
theorem dL_law_343 : decode cL_law 343 = .ok (.ifCond .ne 15, 3) := by decide +kernel
theorem dL_law_346 : decode cL_law 346 = .ok (.aload_n 3, 1) := by decide +kernel
theorem dL_law_347 : decode cL_law 347 = .ok (.iconst 0, 1) := by decide +kernel
theorem dL_law_348 : decode cL_law 348 = .ok (.laload, 1) := by decide +kernel
theorem dL_law_349 : decode cL_law 349 = .ok (.iload 6, 2) := by decide +kernel
theorem dL_law_351 : decode cL_law 351 = .ok (.i2l, 1) := by decide +kernel
theorem dL_law_352 : decode cL_law 352 = .ok (.lcmp, 1) := by decide +kernel
theorem dL_law_353 : decode cL_law 353 = .ok (.ifCond .eq 5, 3) := by decide +kernel
theorem dL_law_356 : decode cL_law 356 = .ok (.iconst 0, 1) := by decide +kernel
theorem dL_law_357 : decode cL_law 357 = .ok (.ireturn, 1) := by decide +kernel
theorem dL_law_358 : decode cL_law 358 = .ok (.goto 1742, 3) := by decide +kernel
theorem dL_law_361 : decode cL_law 361 = .ok (.aload_n 1, 1) := by decide +kernel
theorem dL_law_362 : decode cL_law 362 = .ok (.aload_n 3, 1) := by decide +kernel
theorem dL_law_363 : decode cL_law 363 = .ok (.invokestatic 130, 3) := by decide +kernel
theorem dL_law_366 : decode cL_law 366 = .ok (.istore 5, 2) := by decide +kernel
theorem dL_law_368 : decode cL_law 368 = .ok (.aload_n 2, 1) := by decide +kernel
theorem dL_law_369 : decode cL_law 369 = .ok (.invokevirtual 132, 3) := by decide +kernel
theorem dL_law_372 : decode cL_law 372 = .ok (.istore 6, 2) := by decide +kernel
theorem dL_law_374 : decode cL_law 374 = .ok (.aload_n 2, 1) := by decide +kernel
theorem dL_law_375 : decode cL_law 375 = .ok (.invokevirtual 115, 3) := by decide +kernel
theorem dL_law_378 : decode cL_law 378 = .ok (.iload 5, 2) := by decide +kernel
theorem dL_law_380 : decode cL_law 380 = .ok (.if_icmp .eq 5, 3) := by decide +kernel
theorem dL_law_383 : decode cL_law 383 = .ok (.iconst 0, 1) := by decide +kernel
theorem dL_law_384 : decode cL_law 384 = .ok (.ireturn, 1) := by decide +kernel
theorem dL_law_385 : decode cL_law 385 = .ok (.iload 5, 2) := by decide +kernel
theorem dL_law_387 : decode cL_law 387 = .ok (.ifCond .ne 15, 3) := by decide +kernel
theorem dL_law_390 : decode cL_law 390 = .ok (.aload_n 3, 1) := by decide +kernel
theorem dL_law_391 : decode cL_law 391 = .ok (.iconst 0, 1) := by decide +kernel
theorem dL_law_392 : decode cL_law 392 = .ok (.laload, 1) := by decide +kernel
theorem dL_law_393 : decode cL_law 393 = .ok (.iload 6, 2) := by decide +kernel
theorem dL_law_395 : decode cL_law 395 = .ok (.i2l, 1) := by decide +kernel
theorem dL_law_396 : decode cL_law 396 = .ok (.lcmp, 1) := by decide +kernel
theorem dL_law_397 : decode cL_law 397 = .ok (.ifCond .eq 5, 3) := by decide +kernel
theorem dL_law_400 : decode cL_law 400 = .ok (.iconst 0, 1) := by decide +kernel
theorem dL_law_401 : decode cL_law 401 = .ok (.ireturn, 1) := by decide +kernel
theorem dL_law_402 : decode cL_law 402 = .ok (.goto 1698, 3) := by decide +kernel
theorem dL_law_405 : decode cL_law 405 = .ok (.aload_n 1, 1) := by decide +kernel
theorem dL_law_406 : decode cL_law 406 = .ok (.aload_n 0, 1) := by decide +kernel
theorem dL_law_407 : decode cL_law 407 = .ok (.iload 4, 2) := by decide +kernel
theorem dL_law_409 : decode cL_law 409 = .ok (.iconst 1, 1) := by decide +kernel
theorem dL_law_410 : decode cL_law 410 = .ok (.iadd, 1) := by decide +kernel
theorem dL_law_411 : decode cL_law 411 = .ok (.iaload, 1) := by decide +kernel
theorem dL_law_412 : decode cL_law 412 = .ok (.aload_n 0, 1) := by decide +kernel
theorem dL_law_413 : decode cL_law 413 = .ok (.iload 4, 2) := by decide +kernel
theorem dL_law_415 : decode cL_law 415 = .ok (.iconst 2, 1) := by decide +kernel
theorem dL_law_416 : decode cL_law 416 = .ok (.iadd, 1) := by decide +kernel
theorem dL_law_417 : decode cL_law 417 = .ok (.iaload, 1) := by decide +kernel
theorem dL_law_418 : decode cL_law 418 = .ok (.aload_n 3, 1) := by decide +kernel
theorem dL_law_419 : decode cL_law 419 = .ok (.invokestatic 133, 3) := by decide +kernel
theorem dL_law_422 : decode cL_law 422 = .ok (.istore 5, 2) := by decide +kernel
theorem dL_law_424 : decode cL_law 424 = .ok (.aload_n 2, 1) := by decide +kernel
theorem dL_law_425 : decode cL_law 425 = .ok (.aload_n 0, 1) := by decide +kernel
theorem dL_law_426 : decode cL_law 426 = .ok (.iload 4, 2) := by decide +kernel
theorem dL_law_428 : decode cL_law 428 = .ok (.iconst 1, 1) := by decide +kernel
theorem dL_law_429 : decode cL_law 429 = .ok (.iadd, 1) := by decide +kernel
theorem dL_law_430 : decode cL_law 430 = .ok (.iaload, 1) := by decide +kernel
theorem dL_law_431 : decode cL_law 431 = .ok (.aload_n 0, 1) := by decide +kernel
theorem dL_law_432 : decode cL_law 432 = .ok (.iload 4, 2) := by decide +kernel
theorem dL_law_434 : decode cL_law 434 = .ok (.iconst 2, 1) := by decide +kernel
theorem dL_law_435 : decode cL_law 435 = .ok (.iadd, 1) := by decide +kernel
theorem dL_law_436 : decode cL_law 436 = .ok (.iaload, 1) := by decide +kernel
theorem dL_law_437 : decode cL_law 437 = .ok (.invokevirtual 136, 3) := by decide +kernel
theorem dL_law_440 : decode cL_law 440 = .ok (.istore 6, 2) := by decide +kernel
theorem dL_law_442 : decode cL_law 442 = .ok (.aload_n 2, 1) := by decide +kernel
theorem dL_law_443 : decode cL_law 443 = .ok (.invokevirtual 115, 3) := by decide +kernel
theorem dL_law_446 : decode cL_law 446 = .ok (.iload 5, 2) := by decide +kernel
theorem dL_law_448 : decode cL_law 448 = .ok (.if_icmp .eq 5, 3) := by decide +kernel
theorem dL_law_451 : decode cL_law 451 = .ok (.iconst 0, 1) := by decide +kernel
theorem dL_law_452 : decode cL_law 452 = .ok (.ireturn, 1) := by decide +kernel
theorem dL_law_453 : decode cL_law 453 = .ok (.iload 5, 2) := by decide +kernel
theorem dL_law_455 : decode cL_law 455 = .ok (.ifCond .ne 15, 3) := by decide +kernel
theorem dL_law_458 : decode cL_law 458 = .ok (.aload_n 3, 1) := by decide +kernel
theorem dL_law_459 : decode cL_law 459 = .ok (.iconst 0, 1) := by decide +kernel
theorem dL_law_460 : decode cL_law 460 = .ok (.laload, 1) := by decide +kernel
theorem dL_law_461 : decode cL_law 461 = .ok (.iload 6, 2) := by decide +kernel
theorem dL_law_463 : decode cL_law 463 = .ok (.i2l, 1) := by decide +kernel
theorem dL_law_464 : decode cL_law 464 = .ok (.lcmp, 1) := by decide +kernel
theorem dL_law_465 : decode cL_law 465 = .ok (.ifCond .eq 5, 3) := by decide +kernel
theorem dL_law_468 : decode cL_law 468 = .ok (.iconst 0, 1) := by decide +kernel
theorem dL_law_469 : decode cL_law 469 = .ok (.ireturn, 1) := by decide +kernel
theorem dL_law_470 : decode cL_law 470 = .ok (.goto 1630, 3) := by decide +kernel
theorem dL_law_473 : decode cL_law 473 = .ok (.aload_n 1, 1) := by decide +kernel
theorem dL_law_474 : decode cL_law 474 = .ok (.aload_n 0, 1) := by decide +kernel
theorem dL_law_475 : decode cL_law 475 = .ok (.iload 4, 2) := by decide +kernel
theorem dL_law_477 : decode cL_law 477 = .ok (.iconst 1, 1) := by decide +kernel
theorem dL_law_478 : decode cL_law 478 = .ok (.iadd, 1) := by decide +kernel
theorem dL_law_479 : decode cL_law 479 = .ok (.iaload, 1) := by decide +kernel
theorem dL_law_480 : decode cL_law 480 = .ok (.aload_n 0, 1) := by decide +kernel
theorem dL_law_481 : decode cL_law 481 = .ok (.iload 4, 2) := by decide +kernel
theorem dL_law_483 : decode cL_law 483 = .ok (.iconst 2, 1) := by decide +kernel
theorem dL_law_484 : decode cL_law 484 = .ok (.iadd, 1) := by decide +kernel
theorem dL_law_485 : decode cL_law 485 = .ok (.iaload, 1) := by decide +kernel
theorem dL_law_486 : decode cL_law 486 = .ok (.aload_n 3, 1) := by decide +kernel
theorem dL_law_487 : decode cL_law 487 = .ok (.invokestatic 137, 3) := by decide +kernel
theorem dL_law_490 : decode cL_law 490 = .ok (.istore 5, 2) := by decide +kernel
theorem dL_law_492 : decode cL_law 492 = .ok (.aload_n 2, 1) := by decide +kernel
theorem dL_law_493 : decode cL_law 493 = .ok (.aload_n 0, 1) := by decide +kernel
theorem dL_law_494 : decode cL_law 494 = .ok (.iload 4, 2) := by decide +kernel
theorem dL_law_496 : decode cL_law 496 = .ok (.iconst 1, 1) := by decide +kernel
theorem dL_law_497 : decode cL_law 497 = .ok (.iadd, 1) := by decide +kernel
theorem dL_law_498 : decode cL_law 498 = .ok (.iaload, 1) := by decide +kernel
theorem dL_law_499 : decode cL_law 499 = .ok (.aload_n 0, 1) := by decide +kernel
theorem dL_law_500 : decode cL_law 500 = .ok (.iload 4, 2) := by decide +kernel
theorem dL_law_502 : decode cL_law 502 = .ok (.iconst 2, 1) := by decide +kernel
theorem dL_law_503 : decode cL_law 503 = .ok (.iadd, 1) := by decide +kernel
theorem dL_law_504 : decode cL_law 504 = .ok (.iaload, 1) := by decide +kernel
theorem dL_law_505 : decode cL_law 505 = .ok (.invokevirtual 139, 3) := by decide +kernel
theorem dL_law_508 : decode cL_law 508 = .ok (.istore 6, 2) := by decide +kernel
theorem dL_law_510 : decode cL_law 510 = .ok (.aload_n 2, 1) := by decide +kernel
theorem dL_law_511 : decode cL_law 511 = .ok (.invokevirtual 115, 3) := by decide +kernel
theorem dL_law_514 : decode cL_law 514 = .ok (.iload 5, 2) := by decide +kernel
theorem dL_law_516 : decode cL_law 516 = .ok (.if_icmp .eq 5, 3) := by decide +kernel
theorem dL_law_519 : decode cL_law 519 = .ok (.iconst 0, 1) := by decide +kernel
theorem dL_law_520 : decode cL_law 520 = .ok (.ireturn, 1) := by decide +kernel
theorem dL_law_521 : decode cL_law 521 = .ok (.iload 5, 2) := by decide +kernel
theorem dL_law_523 : decode cL_law 523 = .ok (.ifCond .ne 15, 3) := by decide +kernel
theorem dL_law_526 : decode cL_law 526 = .ok (.aload_n 3, 1) := by decide +kernel
theorem dL_law_527 : decode cL_law 527 = .ok (.iconst 0, 1) := by decide +kernel
theorem dL_law_528 : decode cL_law 528 = .ok (.laload, 1) := by decide +kernel
theorem dL_law_529 : decode cL_law 529 = .ok (.iload 6, 2) := by decide +kernel
theorem dL_law_531 : decode cL_law 531 = .ok (.i2l, 1) := by decide +kernel
theorem dL_law_532 : decode cL_law 532 = .ok (.lcmp, 1) := by decide +kernel
theorem dL_law_533 : decode cL_law 533 = .ok (.ifCond .eq 5, 3) := by decide +kernel
theorem dL_law_536 : decode cL_law 536 = .ok (.iconst 0, 1) := by decide +kernel
theorem dL_law_537 : decode cL_law 537 = .ok (.ireturn, 1) := by decide +kernel
theorem dL_law_538 : decode cL_law 538 = .ok (.goto 1562, 3) := by decide +kernel
theorem dL_law_541 : decode cL_law 541 = .ok (.aload_n 1, 1) := by decide +kernel
theorem dL_law_542 : decode cL_law 542 = .ok (.aload_n 0, 1) := by decide +kernel
