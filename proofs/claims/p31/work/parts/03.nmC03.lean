theorem dX7_word_5 : decode cX7_word 5 = .ok (.getfield 13, 3) := by decide +kernel
theorem dX7_word_8 : decode cX7_word 8 = .ok (.iconst 1, 1) := by decide +kernel
theorem dX7_word_9 : decode cX7_word 9 = .ok (.iadd, 1) := by decide +kernel
theorem dX7_word_10 : decode cX7_word 10 = .ok (.iconst 0, 1) := by decide +kernel
theorem dX7_word_11 : decode cX7_word 11 = .ok (.invokevirtual 76, 3) := by decide +kernel
theorem dX7_word_14 : decode cX7_word 14 = .ok (.iconst 0, 1) := by decide +kernel
theorem dX7_word_15 : decode cX7_word 15 = .ok (.istore_n 1, 1) := by decide +kernel
theorem dX7_word_16 : decode cX7_word 16 = .ok (.iload_n 1, 1) := by decide +kernel
theorem dX7_word_17 : decode cX7_word 17 = .ok (.aload_n 0, 1) := by decide +kernel
theorem dX7_word_18 : decode cX7_word 18 = .ok (.getfield 13, 3) := by decide +kernel
theorem dX7_word_21 : decode cX7_word 21 = .ok (.if_icmp .ge 33, 3) := by decide +kernel
theorem dX7_word_24 : decode cX7_word 24 = .ok (.aload_n 0, 1) := by decide +kernel
theorem dX7_word_25 : decode cX7_word 25 = .ok (.getfield 30, 3) := by decide +kernel
theorem dX7_word_28 : decode cX7_word 28 = .ok (.iload_n 1, 1) := by decide +kernel
theorem dX7_word_29 : decode cX7_word 29 = .ok (.aload_n 0, 1) := by decide +kernel
theorem dX7_word_30 : decode cX7_word 30 = .ok (.getfield 9, 3) := by decide +kernel
theorem dX7_word_33 : decode cX7_word 33 = .ok (.iload_n 1, 1) := by decide +kernel
theorem dX7_word_34 : decode cX7_word 34 = .ok (.iaload, 1) := by decide +kernel
theorem dX7_word_35 : decode cX7_word 35 = .ok (.aload_n 0, 1) := by decide +kernel
theorem dX7_word_36 : decode cX7_word 36 = .ok (.getfield 9, 3) := by decide +kernel
theorem dX7_word_39 : decode cX7_word 39 = .ok (.iload_n 1, 1) := by decide +kernel
theorem dX7_word_40 : decode cX7_word 40 = .ok (.iaload, 1) := by decide +kernel
theorem dX7_word_41 : decode cX7_word 41 = .ok (.iconst 0, 1) := by decide +kernel
theorem dX7_word_42 : decode cX7_word 42 = .ok (.iload_n 1, 1) := by decide +kernel
theorem dX7_word_43 : decode cX7_word 43 = .ok (.iconst 1, 1) := by decide +kernel
theorem dX7_word_44 : decode cX7_word 44 = .ok (.iadd, 1) := by decide +kernel
theorem dX7_word_45 : decode cX7_word 45 = .ok (.invokevirtual 80, 3) := by decide +kernel
theorem dX7_word_48 : decode cX7_word 48 = .ok (.iinc 1 1, 3) := by decide +kernel
theorem dX7_word_51 : decode cX7_word 51 = .ok (.goto (-35), 3) := by decide +kernel
theorem dX7_word_54 : decode cX7_word 54 = .ok (.aload_n 0, 1) := by decide +kernel
theorem dX7_word_55 : decode cX7_word 55 = .ok (.getfield 30, 3) := by decide +kernel
theorem dX7_word_58 : decode cX7_word 58 = .ok (.aload_n 0, 1) := by decide +kernel
theorem dX7_word_59 : decode cX7_word 59 = .ok (.getfield 13, 3) := by decide +kernel
theorem dX7_word_62 : decode cX7_word 62 = .ok (.invokevirtual 84, 3) := by decide +kernel
theorem dX7_word_65 : decode cX7_word 65 = .ok (.aload_n 0, 1) := by decide +kernel
theorem dX7_word_66 : decode cX7_word 66 = .ok (.invokevirtual 88, 3) := by decide +kernel
theorem dX7_word_69 : decode cX7_word 69 = .ok (.ireturn, 1) := by decide +kernel
set_option maxRecDepth 20000 in
theorem ggX7_any_X1_begin : GoodIn wsX7_any wsX1_begin := goodIn_g _ [(6, 9), (122, 13)] (by exact rfl) (by decide +kernel)
set_option maxRecDepth 20000 in
theorem gX7_any_X1_begin : GoodIn wsX7_any (wsV RX7 76 RX1 yX1_begin wsX1_begin) := goodIn_app (goodIn_of _ (by decide +kernel)) ggX7_any_X1_begin
set_option maxRecDepth 20000 in
theorem ggX7_any_X1_addArc : GoodIn wsX7_any wsX1_addArc := goodIn_g _ [(18, 1), (13, 1), (11, 1), (19, 5), (122, 13)] (by exact rfl) (by decide +kernel)
set_option maxRecDepth 20000 in
theorem gX7_any_X1_addArc : GoodIn wsX7_any (wsV RX7 80 RX1 yX1_addArc wsX1_addArc) := goodIn_app (goodIn_of _ (by decide +kernel)) ggX7_any_X1_addArc
set_option maxRecDepth 20000 in
theorem ggX7_any_X1_addEnd : GoodIn wsX7_any wsX1_addEnd := goodIn_g _ [(27, 1), (11, 1), (14, 1), (122, 13)] (by exact rfl) (by decide +kernel)
set_option maxRecDepth 20000 in
theorem gX7_any_X1_addEnd : GoodIn wsX7_any (wsV RX7 84 RX1 yX1_addEnd wsX1_addEnd) := goodIn_app (goodIn_of _ (by decide +kernel)) ggX7_any_X1_addEnd
set_option maxRecDepth 20000 in
theorem ggX7_any_X7_keepDraft : GoodIn wsX7_any wsX7_keepDraft := goodIn_ca (goodIn_g _ [(31, 4), (1, 1), (35, 4), (5, 1), (39, 6), (12, 1), (45, 4), (11, 1), (49, 7), (13, 1), (19, 1), (56, 2), (22, 1), (58, 11), (14, 1), (69, 5), (20, 1), (74, 9), (8, 3), (83, 18), (21, 1), (23, 1), (101, 21), (135, 6), (122, 13)] (by exact rfl) (by decide +kernel)) (goodIn_sub (fun _ h => List.mem_cons_of_mem _ (List.mem_append_right _ h)) (by decide +kernel))
set_option maxRecDepth 20000 in
theorem gX7_any_X7_keepDraft : GoodIn wsX7_any (wsV RX7 88 RX7 yX7_keepDraft wsX7_keepDraft) := goodIn_app (goodIn_of _ (by decide +kernel)) ggX7_any_X7_keepDraft
theorem dX7_any_0 : decode cX7_any 0 = .ok (.aload_n 0, 1) := by decide +kernel
theorem dX7_any_1 : decode cX7_any 1 = .ok (.getfield 30, 3) := by decide +kernel
theorem dX7_any_4 : decode cX7_any 4 = .ok (.iconst 2, 1) := by decide +kernel
theorem dX7_any_5 : decode cX7_any 5 = .ok (.iconst 0, 1) := by decide +kernel
theorem dX7_any_6 : decode cX7_any 6 = .ok (.invokevirtual 76, 3) := by decide +kernel
theorem dX7_any_9 : decode cX7_any 9 = .ok (.iconst 0, 1) := by decide +kernel
theorem dX7_any_10 : decode cX7_any 10 = .ok (.istore_n 1, 1) := by decide +kernel
theorem dX7_any_11 : decode cX7_any 11 = .ok (.iload_n 1, 1) := by decide +kernel
theorem dX7_any_12 : decode cX7_any 12 = .ok (.bipush 8, 2) := by decide +kernel
theorem dX7_any_14 : decode cX7_any 14 = .ok (.if_icmp .ge 21, 3) := by decide +kernel
theorem dX7_any_17 : decode cX7_any 17 = .ok (.aload_n 0, 1) := by decide +kernel
theorem dX7_any_18 : decode cX7_any 18 = .ok (.getfield 30, 3) := by decide +kernel
theorem dX7_any_21 : decode cX7_any 21 = .ok (.iconst 0, 1) := by decide +kernel
theorem dX7_any_22 : decode cX7_any 22 = .ok (.iload_n 1, 1) := by decide +kernel
theorem dX7_any_23 : decode cX7_any 23 = .ok (.iload_n 1, 1) := by decide +kernel
theorem dX7_any_24 : decode cX7_any 24 = .ok (.iconst 0, 1) := by decide +kernel
theorem dX7_any_25 : decode cX7_any 25 = .ok (.iconst 1, 1) := by decide +kernel
theorem dX7_any_26 : decode cX7_any 26 = .ok (.invokevirtual 80, 3) := by decide +kernel
theorem dX7_any_29 : decode cX7_any 29 = .ok (.iinc 1 1, 3) := by decide +kernel
theorem dX7_any_32 : decode cX7_any 32 = .ok (.goto (-21), 3) := by decide +kernel
theorem dX7_any_35 : decode cX7_any 35 = .ok (.aload_n 0, 1) := by decide +kernel
theorem dX7_any_36 : decode cX7_any 36 = .ok (.getfield 30, 3) := by decide +kernel
theorem dX7_any_39 : decode cX7_any 39 = .ok (.iconst 1, 1) := by decide +kernel
theorem dX7_any_40 : decode cX7_any 40 = .ok (.invokevirtual 84, 3) := by decide +kernel
theorem dX7_any_43 : decode cX7_any 43 = .ok (.aload_n 0, 1) := by decide +kernel
theorem dX7_any_44 : decode cX7_any 44 = .ok (.invokevirtual 88, 3) := by decide +kernel
theorem dX7_any_47 : decode cX7_any 47 = .ok (.ireturn, 1) := by decide +kernel
set_option maxRecDepth 20000 in
theorem ggX7_join_X7_needMachine : GoodIn wsX7_join wsX7_needMachine := goodIn_ca (goodIn_g _ [(8, 4), (135, 8)] (by exact rfl) (by decide +kernel)) (goodIn_sub (fun _ h => List.mem_cons_of_mem _ (List.mem_append_left _ (List.mem_append_right _ h))) (by decide +kernel))
set_option maxRecDepth 20000 in
theorem gX7_join_X7_needMachine : GoodIn wsX7_join (wsV RX7 92 RX7 yX7_needMachine wsX7_needMachine) := goodIn_app (goodIn_of _ (by decide +kernel)) ggX7_join_X7_needMachine
set_option maxRecDepth 20000 in
theorem ggX7_join_X1_begin : GoodIn wsX7_join wsX1_begin := goodIn_g _ [(16, 9), (146, 13)] (by exact rfl) (by decide +kernel)
set_option maxRecDepth 20000 in
theorem gX7_join_X1_begin : GoodIn wsX7_join (wsV RX7 76 RX1 yX1_begin wsX1_begin) := goodIn_app (goodIn_of _ (by decide +kernel)) ggX7_join_X1_begin
set_option maxRecDepth 20000 in
theorem ggX7_join_X1_addArcsOf : GoodIn wsX7_join wsX1_addArcsOf := goodIn_g _ [(28, 6), (7, 1), (34, 10), (15, 1), (44, 1), (23, 1), (21, 1), (45, 4), (143, 3), (159, 3), (146, 13)] (by exact rfl) (by decide +kernel)
set_option maxRecDepth 20000 in
theorem gX7_join_X1_addArcsOf : GoodIn wsX7_join (wsV RX7 98 RX1 yX1_addArcsOf wsX1_addArcsOf) := goodIn_app (goodIn_of _ (by decide +kernel)) ggX7_join_X1_addArcsOf
set_option maxRecDepth 20000 in
theorem ggX7_join_X1_leadFromEndsOf : GoodIn wsX7_join wsX1_leadFromEndsOf := goodIn_g _ [(52, 4), (7, 1), (56, 1), (41, 3), (15, 1), (44, 1), (23, 1), (21, 1), (45, 4), (143, 16)] (by exact rfl) (by decide +kernel)
set_option maxRecDepth 20000 in
theorem gX7_join_X1_leadFromEndsOf : GoodIn wsX7_join (wsV RX7 102 RX1 yX1_leadFromEndsOf wsX1_leadFromEndsOf) := goodIn_app (goodIn_of _ (by decide +kernel)) ggX7_join_X1_leadFromEndsOf
set_option maxRecDepth 20000 in
theorem ggX7_join_X1_addEndsOf : GoodIn wsX7_join wsX1_addEndsOf := goodIn_g _ [(60, 1), (53, 3), (7, 1), (56, 1), (61, 3), (15, 1), (64, 1), (21, 1), (24, 1), (143, 16)] (by exact rfl) (by decide +kernel)
set_option maxRecDepth 20000 in
theorem gX7_join_X1_addEndsOf : GoodIn wsX7_join (wsV RX7 106 RX1 yX1_addEndsOf wsX1_addEndsOf) := goodIn_app (goodIn_of _ (by decide +kernel)) ggX7_join_X1_addEndsOf
set_option maxRecDepth 20000 in
theorem ggX7_join_X7_keepDraft : GoodIn wsX7_join wsX7_keepDraft := goodIn_ca (goodIn_g _ [(68, 3), (11, 1), (2, 1), (1, 1), (71, 3), (15, 1), (74, 1), (53, 2), (29, 2), (75, 1), (22, 1), (76, 4), (21, 1), (80, 7), (23, 1), (45, 1), (87, 1), (33, 1), (7, 1), (34, 1), (39, 2), (88, 8), (24, 1), (96, 5), (46, 1), (101, 9), (18, 3), (110, 13), (31, 1), (123, 4), (47, 2), (127, 8), (32, 1), (35, 4), (135, 11), (159, 3), (146, 13)] (by exact rfl) (by decide +kernel)) (goodIn_sub (fun _ h => List.mem_cons_of_mem _ (List.mem_append_right _ h)) (by decide +kernel))
set_option maxRecDepth 20000 in
theorem gX7_join_X7_keepDraft : GoodIn wsX7_join (wsV RX7 88 RX7 yX7_keepDraft wsX7_keepDraft) := goodIn_app (goodIn_of _ (by decide +kernel)) ggX7_join_X7_keepDraft
theorem dX7_join_0 : decode cX7_join 0 = .ok (.aload_n 0, 1) := by decide +kernel
theorem dX7_join_1 : decode cX7_join 1 = .ok (.iload_n 1, 1) := by decide +kernel
theorem dX7_join_2 : decode cX7_join 2 = .ok (.invokevirtual 92, 3) := by decide +kernel
theorem dX7_join_5 : decode cX7_join 5 = .ok (.aload_n 0, 1) := by decide +kernel
theorem dX7_join_6 : decode cX7_join 6 = .ok (.iload_n 2, 1) := by decide +kernel
theorem dX7_join_7 : decode cX7_join 7 = .ok (.invokevirtual 92, 3) := by decide +kernel
theorem dX7_join_10 : decode cX7_join 10 = .ok (.aload_n 0, 1) := by decide +kernel
theorem dX7_join_11 : decode cX7_join 11 = .ok (.getfield 19, 3) := by decide +kernel
theorem dX7_join_14 : decode cX7_join 14 = .ok (.iload_n 1, 1) := by decide +kernel
theorem dX7_join_15 : decode cX7_join 15 = .ok (.aaload, 1) := by decide +kernel
theorem dX7_join_16 : decode cX7_join 16 = .ok (.astore_n 3, 1) := by decide +kernel
theorem dX7_join_17 : decode cX7_join 17 = .ok (.aload_n 0, 1) := by decide +kernel
theorem dX7_join_18 : decode cX7_join 18 = .ok (.getfield 19, 3) := by decide +kernel
theorem dX7_join_21 : decode cX7_join 21 = .ok (.iload_n 2, 1) := by decide +kernel
theorem dX7_join_22 : decode cX7_join 22 = .ok (.aaload, 1) := by decide +kernel
theorem dX7_join_23 : decode cX7_join 23 = .ok (.astore 4, 2) := by decide +kernel
theorem dX7_join_25 : decode cX7_join 25 = .ok (.aload_n 0, 1) := by decide +kernel
theorem dX7_join_26 : decode cX7_join 26 = .ok (.getfield 30, 3) := by decide +kernel
theorem dX7_join_29 : decode cX7_join 29 = .ok (.aload_n 3, 1) := by decide +kernel
theorem dX7_join_30 : decode cX7_join 30 = .ok (.getfield 95, 3) := by decide +kernel
theorem dX7_join_33 : decode cX7_join 33 = .ok (.aload 4, 2) := by decide +kernel
theorem dX7_join_35 : decode cX7_join 35 = .ok (.getfield 95, 3) := by decide +kernel
theorem dX7_join_38 : decode cX7_join 38 = .ok (.iadd, 1) := by decide +kernel
theorem dX7_join_39 : decode cX7_join 39 = .ok (.iconst 0, 1) := by decide +kernel
theorem dX7_join_40 : decode cX7_join 40 = .ok (.invokevirtual 76, 3) := by decide +kernel
theorem dX7_join_43 : decode cX7_join 43 = .ok (.aload_n 0, 1) := by decide +kernel
theorem dX7_join_44 : decode cX7_join 44 = .ok (.getfield 30, 3) := by decide +kernel
theorem dX7_join_47 : decode cX7_join 47 = .ok (.aload_n 3, 1) := by decide +kernel
theorem dX7_join_48 : decode cX7_join 48 = .ok (.iconst 0, 1) := by decide +kernel
theorem dX7_join_49 : decode cX7_join 49 = .ok (.invokevirtual 98, 3) := by decide +kernel
theorem dX7_join_52 : decode cX7_join 52 = .ok (.aload_n 0, 1) := by decide +kernel
theorem dX7_join_53 : decode cX7_join 53 = .ok (.getfield 30, 3) := by decide +kernel
theorem dX7_join_56 : decode cX7_join 56 = .ok (.aload 4, 2) := by decide +kernel
theorem dX7_join_58 : decode cX7_join 58 = .ok (.aload_n 3, 1) := by decide +kernel
theorem dX7_join_59 : decode cX7_join 59 = .ok (.getfield 95, 3) := by decide +kernel
theorem dX7_join_62 : decode cX7_join 62 = .ok (.invokevirtual 98, 3) := by decide +kernel
theorem dX7_join_65 : decode cX7_join 65 = .ok (.aload_n 0, 1) := by decide +kernel
theorem dX7_join_66 : decode cX7_join 66 = .ok (.getfield 30, 3) := by decide +kernel
theorem dX7_join_69 : decode cX7_join 69 = .ok (.aload_n 3, 1) := by decide +kernel
theorem dX7_join_70 : decode cX7_join 70 = .ok (.iconst 0, 1) := by decide +kernel
theorem dX7_join_71 : decode cX7_join 71 = .ok (.aload_n 3, 1) := by decide +kernel
theorem dX7_join_72 : decode cX7_join 72 = .ok (.getfield 95, 3) := by decide +kernel
theorem dX7_join_75 : decode cX7_join 75 = .ok (.invokevirtual 102, 3) := by decide +kernel
theorem dX7_join_78 : decode cX7_join 78 = .ok (.aload_n 0, 1) := by decide +kernel
theorem dX7_join_79 : decode cX7_join 79 = .ok (.getfield 30, 3) := by decide +kernel
theorem dX7_join_82 : decode cX7_join 82 = .ok (.aload 4, 2) := by decide +kernel
theorem dX7_join_84 : decode cX7_join 84 = .ok (.aload_n 3, 1) := by decide +kernel
theorem dX7_join_85 : decode cX7_join 85 = .ok (.getfield 95, 3) := by decide +kernel
theorem dX7_join_88 : decode cX7_join 88 = .ok (.invokevirtual 106, 3) := by decide +kernel
theorem dX7_join_91 : decode cX7_join 91 = .ok (.aload_n 0, 1) := by decide +kernel
theorem dX7_join_92 : decode cX7_join 92 = .ok (.invokevirtual 88, 3) := by decide +kernel
theorem dX7_join_95 : decode cX7_join 95 = .ok (.ireturn, 1) := by decide +kernel
set_option maxRecDepth 20000 in
theorem ggX7_unite_X7_needMachine : GoodIn wsX7_unite wsX7_needMachine := goodIn_ca (goodIn_g _ [(8, 4), (132, 8)] (by exact rfl) (by decide +kernel)) (goodIn_sub (fun _ h => List.mem_cons_of_mem _ (List.mem_append_left _ (List.mem_append_right _ h))) (by decide +kernel))
set_option maxRecDepth 20000 in
theorem gX7_unite_X7_needMachine : GoodIn wsX7_unite (wsV RX7 92 RX7 yX7_needMachine wsX7_needMachine) := goodIn_app (goodIn_of _ (by decide +kernel)) ggX7_unite_X7_needMachine
set_option maxRecDepth 20000 in
theorem ggX7_unite_X1_begin : GoodIn wsX7_unite wsX1_begin := goodIn_g _ [(16, 9), (143, 13)] (by exact rfl) (by decide +kernel)
set_option maxRecDepth 20000 in
theorem gX7_unite_X1_begin : GoodIn wsX7_unite (wsV RX7 76 RX1 yX1_begin wsX1_begin) := goodIn_app (goodIn_of _ (by decide +kernel)) ggX7_unite_X1_begin
set_option maxRecDepth 20000 in
theorem ggX7_unite_X1_addArcsOf : GoodIn wsX7_unite wsX1_addArcsOf := goodIn_g _ [(28, 6), (7, 1), (34, 10), (15, 1), (44, 1), (23, 1), (21, 1), (45, 4), (140, 3), (156, 3), (143, 13)] (by exact rfl) (by decide +kernel)
set_option maxRecDepth 20000 in
theorem gX7_unite_X1_addArcsOf : GoodIn wsX7_unite (wsV RX7 98 RX1 yX1_addArcsOf wsX1_addArcsOf) := goodIn_app (goodIn_of _ (by decide +kernel)) ggX7_unite_X1_addArcsOf
set_option maxRecDepth 20000 in
theorem ggX7_unite_X1_addEndsOf : GoodIn wsX7_unite wsX1_addEndsOf := goodIn_g _ [(52, 4), (7, 1), (56, 4), (15, 1), (60, 1), (21, 1), (24, 1), (140, 16)] (by exact rfl) (by decide +kernel)
set_option maxRecDepth 20000 in
theorem gX7_unite_X1_addEndsOf : GoodIn wsX7_unite (wsV RX7 106 RX1 yX1_addEndsOf wsX1_addEndsOf) := goodIn_app (goodIn_of _ (by decide +kernel)) ggX7_unite_X1_addEndsOf
set_option maxRecDepth 20000 in
theorem ggX7_unite_X1_addArc : GoodIn wsX7_unite wsX1_addArc := goodIn_g _ [(44, 1), (23, 1), (21, 1), (45, 3), (7, 1), (48, 1), (143, 13)] (by exact rfl) (by decide +kernel)
set_option maxRecDepth 20000 in
theorem gX7_unite_X1_addArc : GoodIn wsX7_unite (wsV RX7 80 RX1 yX1_addArc wsX1_addArc) := goodIn_app (goodIn_of _ (by decide +kernel)) ggX7_unite_X1_addArc
set_option maxRecDepth 20000 in
theorem ggX7_unite_X7_keepDraft : GoodIn wsX7_unite wsX7_keepDraft := goodIn_ca (goodIn_g _ [(65, 3), (11, 1), (3, 1), (1, 1), (68, 3), (15, 1), (71, 1), (53, 2), (29, 2), (72, 1), (22, 1), (73, 4), (21, 1), (77, 7), (23, 1), (45, 1), (84, 1), (33, 1), (7, 1), (34, 1), (39, 2), (85, 8), (24, 1), (93, 5), (46, 1), (98, 9), (18, 3), (107, 13), (31, 1), (120, 4), (47, 2), (124, 8), (32, 1), (35, 4), (132, 11), (156, 3), (143, 13)] (by exact rfl) (by decide +kernel)) (goodIn_sub (fun _ h => List.mem_cons_of_mem _ (List.mem_append_right _ h)) (by decide +kernel))
set_option maxRecDepth 20000 in
theorem gX7_unite_X7_keepDraft : GoodIn wsX7_unite (wsV RX7 88 RX7 yX7_keepDraft wsX7_keepDraft) := goodIn_app (goodIn_of _ (by decide +kernel)) ggX7_unite_X7_keepDraft
theorem dX7_unite_0 : decode cX7_unite 0 = .ok (.aload_n 0, 1) := by decide +kernel
theorem dX7_unite_1 : decode cX7_unite 1 = .ok (.iload_n 1, 1) := by decide +kernel
theorem dX7_unite_2 : decode cX7_unite 2 = .ok (.invokevirtual 92, 3) := by decide +kernel
theorem dX7_unite_5 : decode cX7_unite 5 = .ok (.aload_n 0, 1) := by decide +kernel
theorem dX7_unite_6 : decode cX7_unite 6 = .ok (.iload_n 2, 1) := by decide +kernel
theorem dX7_unite_7 : decode cX7_unite 7 = .ok (.invokevirtual 92, 3) := by decide +kernel
theorem dX7_unite_10 : decode cX7_unite 10 = .ok (.aload_n 0, 1) := by decide +kernel
theorem dX7_unite_11 : decode cX7_unite 11 = .ok (.getfield 19, 3) := by decide +kernel
theorem dX7_unite_14 : decode cX7_unite 14 = .ok (.iload_n 1, 1) := by decide +kernel
theorem dX7_unite_15 : decode cX7_unite 15 = .ok (.aaload, 1) := by decide +kernel
theorem dX7_unite_16 : decode cX7_unite 16 = .ok (.astore_n 3, 1) := by decide +kernel
theorem dX7_unite_17 : decode cX7_unite 17 = .ok (.aload_n 0, 1) := by decide +kernel
theorem dX7_unite_18 : decode cX7_unite 18 = .ok (.getfield 19, 3) := by decide +kernel
theorem dX7_unite_21 : decode cX7_unite 21 = .ok (.iload_n 2, 1) := by decide +kernel
theorem dX7_unite_22 : decode cX7_unite 22 = .ok (.aaload, 1) := by decide +kernel
theorem dX7_unite_23 : decode cX7_unite 23 = .ok (.astore 4, 2) := by decide +kernel
theorem dX7_unite_25 : decode cX7_unite 25 = .ok (.aload_n 3, 1) := by decide +kernel
theorem dX7_unite_26 : decode cX7_unite 26 = .ok (.getfield 95, 3) := by decide +kernel
theorem dX7_unite_29 : decode cX7_unite 29 = .ok (.aload 4, 2) := by decide +kernel
theorem dX7_unite_31 : decode cX7_unite 31 = .ok (.getfield 95, 3) := by decide +kernel
theorem dX7_unite_34 : decode cX7_unite 34 = .ok (.iadd, 1) := by decide +kernel
theorem dX7_unite_35 : decode cX7_unite 35 = .ok (.istore 5, 2) := by decide +kernel
theorem dX7_unite_37 : decode cX7_unite 37 = .ok (.aload_n 0, 1) := by decide +kernel
theorem dX7_unite_38 : decode cX7_unite 38 = .ok (.getfield 30, 3) := by decide +kernel
theorem dX7_unite_41 : decode cX7_unite 41 = .ok (.iload 5, 2) := by decide +kernel
theorem dX7_unite_43 : decode cX7_unite 43 = .ok (.iconst 1, 1) := by decide +kernel
theorem dX7_unite_44 : decode cX7_unite 44 = .ok (.iadd, 1) := by decide +kernel
theorem dX7_unite_45 : decode cX7_unite 45 = .ok (.iload 5, 2) := by decide +kernel
theorem dX7_unite_47 : decode cX7_unite 47 = .ok (.invokevirtual 76, 3) := by decide +kernel
theorem dX7_unite_50 : decode cX7_unite 50 = .ok (.aload_n 0, 1) := by decide +kernel
theorem dX7_unite_51 : decode cX7_unite 51 = .ok (.getfield 30, 3) := by decide +kernel
theorem dX7_unite_54 : decode cX7_unite 54 = .ok (.aload_n 3, 1) := by decide +kernel
theorem dX7_unite_55 : decode cX7_unite 55 = .ok (.iconst 0, 1) := by decide +kernel
theorem dX7_unite_56 : decode cX7_unite 56 = .ok (.invokevirtual 98, 3) := by decide +kernel
theorem dX7_unite_59 : decode cX7_unite 59 = .ok (.aload_n 0, 1) := by decide +kernel
theorem dX7_unite_60 : decode cX7_unite 60 = .ok (.getfield 30, 3) := by decide +kernel
theorem dX7_unite_63 : decode cX7_unite 63 = .ok (.aload 4, 2) := by decide +kernel
theorem dX7_unite_65 : decode cX7_unite 65 = .ok (.aload_n 3, 1) := by decide +kernel
theorem dX7_unite_66 : decode cX7_unite 66 = .ok (.getfield 95, 3) := by decide +kernel
theorem dX7_unite_69 : decode cX7_unite 69 = .ok (.invokevirtual 98, 3) := by decide +kernel
theorem dX7_unite_72 : decode cX7_unite 72 = .ok (.aload_n 0, 1) := by decide +kernel
theorem dX7_unite_73 : decode cX7_unite 73 = .ok (.getfield 30, 3) := by decide +kernel
theorem dX7_unite_76 : decode cX7_unite 76 = .ok (.aload_n 3, 1) := by decide +kernel
theorem dX7_unite_77 : decode cX7_unite 77 = .ok (.iconst 0, 1) := by decide +kernel
theorem dX7_unite_78 : decode cX7_unite 78 = .ok (.invokevirtual 106, 3) := by decide +kernel
theorem dX7_unite_81 : decode cX7_unite 81 = .ok (.aload_n 0, 1) := by decide +kernel
theorem dX7_unite_82 : decode cX7_unite 82 = .ok (.getfield 30, 3) := by decide +kernel
theorem dX7_unite_85 : decode cX7_unite 85 = .ok (.aload 4, 2) := by decide +kernel
theorem dX7_unite_87 : decode cX7_unite 87 = .ok (.aload_n 3, 1) := by decide +kernel
theorem dX7_unite_88 : decode cX7_unite 88 = .ok (.getfield 95, 3) := by decide +kernel
theorem dX7_unite_91 : decode cX7_unite 91 = .ok (.invokevirtual 106, 3) := by decide +kernel
theorem dX7_unite_94 : decode cX7_unite 94 = .ok (.aload_n 0, 1) := by decide +kernel
theorem dX7_unite_95 : decode cX7_unite 95 = .ok (.getfield 30, 3) := by decide +kernel
theorem dX7_unite_98 : decode cX7_unite 98 = .ok (.iload 5, 2) := by decide +kernel
theorem dX7_unite_100 : decode cX7_unite 100 = .ok (.bipush 8, 2) := by decide +kernel
theorem dX7_unite_102 : decode cX7_unite 102 = .ok (.bipush 8, 2) := by decide +kernel
theorem dX7_unite_104 : decode cX7_unite 104 = .ok (.iconst 0, 1) := by decide +kernel
theorem dX7_unite_105 : decode cX7_unite 105 = .ok (.iconst 0, 1) := by decide +kernel
theorem dX7_unite_106 : decode cX7_unite 106 = .ok (.invokevirtual 80, 3) := by decide +kernel
theorem dX7_unite_109 : decode cX7_unite 109 = .ok (.aload_n 0, 1) := by decide +kernel
theorem dX7_unite_110 : decode cX7_unite 110 = .ok (.getfield 30, 3) := by decide +kernel
theorem dX7_unite_113 : decode cX7_unite 113 = .ok (.iload 5, 2) := by decide +kernel
theorem dX7_unite_115 : decode cX7_unite 115 = .ok (.bipush 8, 2) := by decide +kernel
theorem dX7_unite_117 : decode cX7_unite 117 = .ok (.bipush 8, 2) := by decide +kernel
theorem dX7_unite_119 : decode cX7_unite 119 = .ok (.iconst 0, 1) := by decide +kernel
theorem dX7_unite_120 : decode cX7_unite 120 = .ok (.aload_n 3, 1) := by decide +kernel
theorem dX7_unite_121 : decode cX7_unite 121 = .ok (.getfield 95, 3) := by decide +kernel
theorem dX7_unite_124 : decode cX7_unite 124 = .ok (.invokevirtual 80, 3) := by decide +kernel
theorem dX7_unite_127 : decode cX7_unite 127 = .ok (.aload_n 0, 1) := by decide +kernel
theorem dX7_unite_128 : decode cX7_unite 128 = .ok (.invokevirtual 88, 3) := by decide +kernel
theorem dX7_unite_131 : decode cX7_unite 131 = .ok (.ireturn, 1) := by decide +kernel
set_option maxRecDepth 20000 in
theorem ggX7_repeat_X7_needMachine : GoodIn wsX7_repeat wsX7_needMachine := goodIn_ca (goodIn_g _ [(10, 4), (142, 8)] (by exact rfl) (by decide +kernel)) (goodIn_sub (fun _ h => List.mem_cons_of_mem _ (List.mem_append_right _ h)) (by decide +kernel))
set_option maxRecDepth 20000 in
theorem gX7_repeat_X7_needMachine : GoodIn wsX7_repeat (wsV RX7 92 RX7 yX7_needMachine wsX7_needMachine) := goodIn_app (goodIn_of _ (by decide +kernel)) ggX7_repeat_X7_needMachine
set_option maxRecDepth 20000 in
theorem ggX7_repeat_X3_relatesEmpty : GoodIn wsX7_repeat wsX3_relatesEmpty := goodIn_g _ [(18, 7), (9, 1), (25, 9), (150, 6)] (by exact rfl) (by decide +kernel)
set_option maxRecDepth 20000 in
theorem gX7_repeat_X3_relatesEmpty : GoodIn wsX7_repeat (wsV RX7 109 RX3 yX3_relatesEmpty wsX3_relatesEmpty) := goodIn_app (goodIn_of _ (by decide +kernel)) ggX7_repeat_X3_relatesEmpty
set_option maxRecDepth 20000 in
theorem ggX7_repeat_X1_begin : GoodIn wsX7_repeat wsX1_begin := goodIn_g _ [(38, 9), (156, 13)] (by exact rfl) (by decide +kernel)
set_option maxRecDepth 20000 in
theorem gX7_repeat_X1_begin : GoodIn wsX7_repeat (wsV RX7 76 RX1 yX1_begin wsX1_begin) := goodIn_app (goodIn_of _ (by decide +kernel)) ggX7_repeat_X1_begin
set_option maxRecDepth 20000 in
theorem ggX7_repeat_X1_addArcsOf : GoodIn wsX7_repeat wsX1_addArcsOf := goodIn_g _ [(50, 5), (28, 1), (9, 1), (29, 1), (24, 4), (32, 2), (55, 3), (37, 1), (58, 1), (45, 1), (43, 1), (59, 4), (150, 19)] (by exact rfl) (by decide +kernel)
set_option maxRecDepth 20000 in
theorem gX7_repeat_X1_addArcsOf : GoodIn wsX7_repeat (wsV RX7 98 RX1 yX1_addArcsOf wsX1_addArcsOf) := goodIn_app (goodIn_of _ (by decide +kernel)) ggX7_repeat_X1_addArcsOf
set_option maxRecDepth 20000 in
theorem ggX7_repeat_X1_addArc : GoodIn wsX7_repeat wsX1_addArc := goodIn_g _ [(58, 1), (45, 1), (43, 1), (59, 3), (9, 1), (62, 1), (156, 13)] (by exact rfl) (by decide +kernel)
set_option maxRecDepth 20000 in
theorem gX7_repeat_X1_addArc : GoodIn wsX7_repeat (wsV RX7 80 RX1 yX1_addArc wsX1_addArc) := goodIn_app (goodIn_of _ (by decide +kernel)) ggX7_repeat_X1_addArc
set_option maxRecDepth 20000 in
theorem ggX7_repeat_X1_leadFromEndsOf : GoodIn wsX7_repeat wsX1_leadFromEndsOf := goodIn_g _ [(67, 3), (30, 1), (9, 1), (31, 1), (55, 3), (37, 1), (58, 1), (45, 1), (43, 1), (59, 4), (150, 3), (156, 13)] (by exact rfl) (by decide +kernel)
set_option maxRecDepth 20000 in
theorem gX7_repeat_X1_leadFromEndsOf : GoodIn wsX7_repeat (wsV RX7 102 RX1 yX1_leadFromEndsOf wsX1_leadFromEndsOf) := goodIn_app (goodIn_of _ (by decide +kernel)) ggX7_repeat_X1_leadFromEndsOf
set_option maxRecDepth 20000 in
theorem ggX7_repeat_X1_addEnd : GoodIn wsX7_repeat wsX1_addEnd := goodIn_g _ [(73, 1), (43, 1), (46, 1), (156, 13)] (by exact rfl) (by decide +kernel)
set_option maxRecDepth 20000 in
theorem gX7_repeat_X1_addEnd : GoodIn wsX7_repeat (wsV RX7 84 RX1 yX1_addEnd wsX1_addEnd) := goodIn_app (goodIn_of _ (by decide +kernel)) ggX7_repeat_X1_addEnd
set_option maxRecDepth 20000 in
theorem ggX7_repeat_X7_keepDraft : GoodIn wsX7_repeat wsX7_keepDraft := goodIn_ca (goodIn_g _ [(77, 1), (1, 2), (13, 1), (5, 1), (3, 1), (78, 3), (37, 1), (81, 1), (68, 2), (51, 2), (82, 1), (44, 1), (83, 4), (43, 1), (87, 7), (45, 1), (59, 1), (94, 1), (28, 1), (9, 1), (29, 1), (32, 2), (95, 8), (46, 1), (103, 5), (60, 1), (108, 9), (40, 3), (117, 13), (53, 1), (130, 4), (61, 2), (134, 8), (54, 1), (24, 4), (142, 27)] (by exact rfl) (by decide +kernel)) (goodIn_sub (fun _ h => List.mem_cons_of_mem _ (List.mem_append_left _ (List.mem_append_right _ h))) (by decide +kernel))
set_option maxRecDepth 20000 in
theorem gX7_repeat_X7_keepDraft : GoodIn wsX7_repeat (wsV RX7 88 RX7 yX7_keepDraft wsX7_keepDraft) := goodIn_app (goodIn_of _ (by decide +kernel)) ggX7_repeat_X7_keepDraft
theorem dX7_repeat_0 : decode cX7_repeat 0 = .ok (.aload_n 0, 1) := by decide +kernel
theorem dX7_repeat_1 : decode cX7_repeat 1 = .ok (.iload_n 1, 1) := by decide +kernel
theorem dX7_repeat_2 : decode cX7_repeat 2 = .ok (.invokevirtual 92, 3) := by decide +kernel
theorem dX7_repeat_5 : decode cX7_repeat 5 = .ok (.aload_n 0, 1) := by decide +kernel
theorem dX7_repeat_6 : decode cX7_repeat 6 = .ok (.getfield 19, 3) := by decide +kernel
theorem dX7_repeat_9 : decode cX7_repeat 9 = .ok (.iload_n 1, 1) := by decide +kernel
theorem dX7_repeat_10 : decode cX7_repeat 10 = .ok (.aaload, 1) := by decide +kernel
theorem dX7_repeat_11 : decode cX7_repeat 11 = .ok (.astore_n 2, 1) := by decide +kernel
theorem dX7_repeat_12 : decode cX7_repeat 12 = .ok (.aload_n 2, 1) := by decide +kernel
theorem dX7_repeat_13 : decode cX7_repeat 13 = .ok (.iconst 1, 1) := by decide +kernel
theorem dX7_repeat_14 : decode cX7_repeat 14 = .ok (.invokevirtual 109, 3) := by decide +kernel
theorem dX7_repeat_17 : decode cX7_repeat 17 = .ok (.ifCond .ne 11, 3) := by decide +kernel
theorem dX7_repeat_20 : decode cX7_repeat 20 = .ok (.aload_n 2, 1) := by decide +kernel
theorem dX7_repeat_21 : decode cX7_repeat 21 = .ok (.iconst 0, 1) := by decide +kernel
theorem dX7_repeat_22 : decode cX7_repeat 22 = .ok (.invokevirtual 109, 3) := by decide +kernel
theorem dX7_repeat_25 : decode cX7_repeat 25 = .ok (.ifCond .eq 13, 3) := by decide +kernel
theorem dX7_repeat_28 : decode cX7_repeat 28 = .ok (.new 66, 3) := by decide +kernel
theorem dX7_repeat_31 : decode cX7_repeat 31 = .ok (.dup, 1) := by decide +kernel
theorem dX7_repeat_32 : decode cX7_repeat 32 = .ok (.ldc 113, 2) := by decide +kernel
theorem dX7_repeat_34 : decode cX7_repeat 34 = .ok (.invokespecial 70, 3) := by decide +kernel
theorem dX7_repeat_37 : decode cX7_repeat 37 = .ok (.athrow, 1) := by decide +kernel
theorem dX7_repeat_38 : decode cX7_repeat 38 = .ok (.aload_n 2, 1) := by decide +kernel
theorem dX7_repeat_39 : decode cX7_repeat 39 = .ok (.getfield 95, 3) := by decide +kernel
theorem dX7_repeat_42 : decode cX7_repeat 42 = .ok (.istore_n 3, 1) := by decide +kernel
theorem dX7_repeat_43 : decode cX7_repeat 43 = .ok (.aload_n 0, 1) := by decide +kernel
theorem dX7_repeat_44 : decode cX7_repeat 44 = .ok (.getfield 30, 3) := by decide +kernel
theorem dX7_repeat_47 : decode cX7_repeat 47 = .ok (.iload_n 3, 1) := by decide +kernel
theorem dX7_repeat_48 : decode cX7_repeat 48 = .ok (.iconst 1, 1) := by decide +kernel
theorem dX7_repeat_49 : decode cX7_repeat 49 = .ok (.iadd, 1) := by decide +kernel
theorem dX7_repeat_50 : decode cX7_repeat 50 = .ok (.iload_n 3, 1) := by decide +kernel
theorem dX7_repeat_51 : decode cX7_repeat 51 = .ok (.invokevirtual 76, 3) := by decide +kernel
theorem dX7_repeat_54 : decode cX7_repeat 54 = .ok (.aload_n 0, 1) := by decide +kernel
theorem dX7_repeat_55 : decode cX7_repeat 55 = .ok (.getfield 30, 3) := by decide +kernel
theorem dX7_repeat_58 : decode cX7_repeat 58 = .ok (.aload_n 2, 1) := by decide +kernel
theorem dX7_repeat_59 : decode cX7_repeat 59 = .ok (.iconst 0, 1) := by decide +kernel
theorem dX7_repeat_60 : decode cX7_repeat 60 = .ok (.invokevirtual 98, 3) := by decide +kernel
theorem dX7_repeat_63 : decode cX7_repeat 63 = .ok (.aload_n 0, 1) := by decide +kernel
theorem dX7_repeat_64 : decode cX7_repeat 64 = .ok (.getfield 30, 3) := by decide +kernel
theorem dX7_repeat_67 : decode cX7_repeat 67 = .ok (.iload_n 3, 1) := by decide +kernel
theorem dX7_repeat_68 : decode cX7_repeat 68 = .ok (.bipush 8, 2) := by decide +kernel
theorem dX7_repeat_70 : decode cX7_repeat 70 = .ok (.bipush 8, 2) := by decide +kernel
theorem dX7_repeat_72 : decode cX7_repeat 72 = .ok (.iconst 0, 1) := by decide +kernel
theorem dX7_repeat_73 : decode cX7_repeat 73 = .ok (.iconst 0, 1) := by decide +kernel
theorem dX7_repeat_74 : decode cX7_repeat 74 = .ok (.invokevirtual 80, 3) := by decide +kernel
theorem dX7_repeat_77 : decode cX7_repeat 77 = .ok (.aload_n 0, 1) := by decide +kernel
theorem dX7_repeat_78 : decode cX7_repeat 78 = .ok (.getfield 30, 3) := by decide +kernel
theorem dX7_repeat_81 : decode cX7_repeat 81 = .ok (.aload_n 2, 1) := by decide +kernel
theorem dX7_repeat_82 : decode cX7_repeat 82 = .ok (.iconst 0, 1) := by decide +kernel
theorem dX7_repeat_83 : decode cX7_repeat 83 = .ok (.iload_n 3, 1) := by decide +kernel
theorem dX7_repeat_84 : decode cX7_repeat 84 = .ok (.invokevirtual 102, 3) := by decide +kernel
theorem dX7_repeat_87 : decode cX7_repeat 87 = .ok (.aload_n 0, 1) := by decide +kernel
theorem dX7_repeat_88 : decode cX7_repeat 88 = .ok (.getfield 30, 3) := by decide +kernel
theorem dX7_repeat_91 : decode cX7_repeat 91 = .ok (.iload_n 3, 1) := by decide +kernel
theorem dX7_repeat_92 : decode cX7_repeat 92 = .ok (.invokevirtual 84, 3) := by decide +kernel
theorem dX7_repeat_95 : decode cX7_repeat 95 = .ok (.aload_n 0, 1) := by decide +kernel
theorem dX7_repeat_96 : decode cX7_repeat 96 = .ok (.invokevirtual 88, 3) := by decide +kernel
theorem dX7_repeat_99 : decode cX7_repeat 99 = .ok (.ireturn, 1) := by decide +kernel
set_option maxRecDepth 20000 in
theorem ggX7_turn_X7_needMachine : GoodIn wsX7_turn wsX7_needMachine := goodIn_ca (goodIn_g _ [(12, 4), (135, 8)] (by exact rfl) (by decide +kernel)) (goodIn_sub (fun _ h => List.mem_cons_of_mem _ (List.mem_append_left _ (List.mem_append_right _ h))) (by decide +kernel))
set_option maxRecDepth 20000 in
theorem gX7_turn_X7_needMachine : GoodIn wsX7_turn (wsV RX7 92 RX7 yX7_needMachine wsX7_needMachine) := goodIn_app (goodIn_of _ (by decide +kernel)) ggX7_turn_X7_needMachine
set_option maxRecDepth 20000 in
theorem ggX7_turn_X1_begin : GoodIn wsX7_turn wsX1_begin := goodIn_g _ [(20, 9), (149, 13)] (by exact rfl) (by decide +kernel)
set_option maxRecDepth 20000 in
theorem gX7_turn_X1_begin : GoodIn wsX7_turn (wsV RX7 76 RX1 yX1_begin wsX1_begin) := goodIn_app (goodIn_of _ (by decide +kernel)) ggX7_turn_X1_begin
set_option maxRecDepth 20000 in
theorem ggX7_turn_X7_fromOf : GoodIn wsX7_turn wsX7_fromOf := goodIn_g _ [(31, 1)] (by exact rfl) (by decide +kernel)
set_option maxRecDepth 20000 in
theorem gX7_turn_X7_fromOf : GoodIn wsX7_turn (va_wsS RX7 125 yX7_fromOf wsX7_fromOf) := goodIn_app (goodIn_of _ (by decide +kernel)) ggX7_turn_X7_fromOf
set_option maxRecDepth 20000 in
theorem ggX7_turn_X7_lowerOf : GoodIn wsX7_turn wsX7_lowerOf := goodIn_g _ [(34, 1)] (by exact rfl) (by decide +kernel)
set_option maxRecDepth 20000 in
theorem gX7_turn_X7_lowerOf : GoodIn wsX7_turn (va_wsS RX7 129 yX7_lowerOf wsX7_lowerOf) := goodIn_app (goodIn_of _ (by decide +kernel)) ggX7_turn_X7_lowerOf
set_option maxRecDepth 20000 in
theorem ggX7_turn_X7_upperOf : GoodIn wsX7_turn wsX7_upperOf := goodIn_g _ [(37, 1)] (by exact rfl) (by decide +kernel)
set_option maxRecDepth 20000 in
theorem gX7_turn_X7_upperOf : GoodIn wsX7_turn (va_wsS RX7 132 yX7_upperOf wsX7_upperOf) := goodIn_app (goodIn_of _ (by decide +kernel)) ggX7_turn_X7_upperOf
set_option maxRecDepth 20000 in
theorem ggX7_turn_X7_toOf : GoodIn wsX7_turn wsX7_toOf := goodIn_g _ [(40, 1)] (by exact rfl) (by decide +kernel)
set_option maxRecDepth 20000 in
theorem gX7_turn_X7_toOf : GoodIn wsX7_turn (va_wsS RX7 138 yX7_toOf wsX7_toOf) := goodIn_app (goodIn_of _ (by decide +kernel)) ggX7_turn_X7_toOf
set_option maxRecDepth 20000 in
theorem ggX7_turn_X1_addArc : GoodIn wsX7_turn wsX1_addArc := goodIn_g _ [(44, 1), (27, 1), (25, 1), (45, 3), (11, 1), (48, 1), (149, 13)] (by exact rfl) (by decide +kernel)
set_option maxRecDepth 20000 in
theorem gX7_turn_X1_addArc : GoodIn wsX7_turn (wsV RX7 80 RX1 yX1_addArc wsX1_addArc) := goodIn_app (goodIn_of _ (by decide +kernel)) ggX7_turn_X1_addArc
set_option maxRecDepth 20000 in
theorem ggX7_turn_X1_addEndsOf : GoodIn wsX7_turn wsX1_addEndsOf := goodIn_g _ [(52, 4), (11, 1), (56, 4), (19, 1), (60, 1), (25, 1), (28, 1), (143, 3), (149, 13)] (by exact rfl) (by decide +kernel)
set_option maxRecDepth 20000 in
theorem gX7_turn_X1_addEndsOf : GoodIn wsX7_turn (wsV RX7 106 RX1 yX1_addEndsOf wsX1_addEndsOf) := goodIn_app (goodIn_of _ (by decide +kernel)) ggX7_turn_X1_addEndsOf
set_option maxRecDepth 20000 in
theorem ggX7_turn_X7_keepDraft : GoodIn wsX7_turn wsX7_keepDraft := goodIn_ca (goodIn_g _ [(64, 3), (15, 1), (2, 1), (1, 1), (67, 3), (19, 1), (70, 1), (53, 2), (71, 3), (26, 1), (74, 4), (25, 1), (78, 7), (27, 1), (45, 1), (85, 1), (30, 1), (11, 1), (31, 1), (39, 2), (86, 8), (28, 1), (94, 5), (46, 1), (99, 9), (22, 3), (108, 18), (47, 2), (126, 9), (36, 2), (33, 2), (135, 27)] (by exact rfl) (by decide +kernel)) (goodIn_sub (fun _ h => List.mem_cons_of_mem _ (List.mem_append_right _ h)) (by decide +kernel))
set_option maxRecDepth 20000 in
theorem gX7_turn_X7_keepDraft : GoodIn wsX7_turn (wsV RX7 88 RX7 yX7_keepDraft wsX7_keepDraft) := goodIn_app (goodIn_of _ (by decide +kernel)) ggX7_turn_X7_keepDraft
theorem dX7_turn_0 : decode cX7_turn 0 = .ok (.aload_n 0, 1) := by decide +kernel
theorem dX7_turn_1 : decode cX7_turn 1 = .ok (.iload_n 1, 1) := by decide +kernel
theorem dX7_turn_2 : decode cX7_turn 2 = .ok (.invokevirtual 92, 3) := by decide +kernel
theorem dX7_turn_5 : decode cX7_turn 5 = .ok (.aload_n 0, 1) := by decide +kernel
theorem dX7_turn_6 : decode cX7_turn 6 = .ok (.getfield 19, 3) := by decide +kernel
theorem dX7_turn_9 : decode cX7_turn 9 = .ok (.iload_n 1, 1) := by decide +kernel
theorem dX7_turn_10 : decode cX7_turn 10 = .ok (.aaload, 1) := by decide +kernel
theorem dX7_turn_11 : decode cX7_turn 11 = .ok (.astore_n 2, 1) := by decide +kernel
theorem dX7_turn_12 : decode cX7_turn 12 = .ok (.aload_n 0, 1) := by decide +kernel
theorem dX7_turn_13 : decode cX7_turn 13 = .ok (.getfield 30, 3) := by decide +kernel
theorem dX7_turn_16 : decode cX7_turn 16 = .ok (.aload_n 2, 1) := by decide +kernel
theorem dX7_turn_17 : decode cX7_turn 17 = .ok (.getfield 95, 3) := by decide +kernel
theorem dX7_turn_20 : decode cX7_turn 20 = .ok (.iconst 0, 1) := by decide +kernel
theorem dX7_turn_21 : decode cX7_turn 21 = .ok (.invokevirtual 76, 3) := by decide +kernel
theorem dX7_turn_24 : decode cX7_turn 24 = .ok (.iconst 0, 1) := by decide +kernel
theorem dX7_turn_25 : decode cX7_turn 25 = .ok (.istore_n 3, 1) := by decide +kernel
theorem dX7_turn_26 : decode cX7_turn 26 = .ok (.iload_n 3, 1) := by decide +kernel
theorem dX7_turn_27 : decode cX7_turn 27 = .ok (.aload_n 2, 1) := by decide +kernel
theorem dX7_turn_28 : decode cX7_turn 28 = .ok (.getfield 115, 3) := by decide +kernel
theorem dX7_turn_31 : decode cX7_turn 31 = .ok (.getfield 119, 3) := by decide +kernel
theorem dX7_turn_34 : decode cX7_turn 34 = .ok (.if_icmp .ge 56, 3) := by decide +kernel
theorem dX7_turn_37 : decode cX7_turn 37 = .ok (.aload_n 2, 1) := by decide +kernel
theorem dX7_turn_38 : decode cX7_turn 38 = .ok (.getfield 115, 3) := by decide +kernel
theorem dX7_turn_41 : decode cX7_turn 41 = .ok (.getfield 122, 3) := by decide +kernel
theorem dX7_turn_44 : decode cX7_turn 44 = .ok (.iload_n 3, 1) := by decide +kernel
theorem dX7_turn_45 : decode cX7_turn 45 = .ok (.iaload, 1) := by decide +kernel
theorem dX7_turn_46 : decode cX7_turn 46 = .ok (.istore 4, 2) := by decide +kernel
theorem dX7_turn_48 : decode cX7_turn 48 = .ok (.aload_n 0, 1) := by decide +kernel
theorem dX7_turn_49 : decode cX7_turn 49 = .ok (.getfield 30, 3) := by decide +kernel
theorem dX7_turn_52 : decode cX7_turn 52 = .ok (.iload 4, 2) := by decide +kernel
theorem dX7_turn_54 : decode cX7_turn 54 = .ok (.invokestatic 125, 3) := by decide +kernel
theorem dX7_turn_57 : decode cX7_turn 57 = .ok (.iload 4, 2) := by decide +kernel
theorem dX7_turn_59 : decode cX7_turn 59 = .ok (.invokestatic 129, 3) := by decide +kernel
theorem dX7_turn_62 : decode cX7_turn 62 = .ok (.iload 4, 2) := by decide +kernel
theorem dX7_turn_64 : decode cX7_turn 64 = .ok (.invokestatic 132, 3) := by decide +kernel
theorem dX7_turn_67 : decode cX7_turn 67 = .ok (.aload_n 2, 1) := by decide +kernel
theorem dX7_turn_68 : decode cX7_turn 68 = .ok (.getfield 115, 3) := by decide +kernel
theorem dX7_turn_71 : decode cX7_turn 71 = .ok (.getfield 135, 3) := by decide +kernel
theorem dX7_turn_74 : decode cX7_turn 74 = .ok (.iload_n 3, 1) := by decide +kernel
theorem dX7_turn_75 : decode cX7_turn 75 = .ok (.iaload, 1) := by decide +kernel
theorem dX7_turn_76 : decode cX7_turn 76 = .ok (.iload 4, 2) := by decide +kernel
theorem dX7_turn_78 : decode cX7_turn 78 = .ok (.invokestatic 138, 3) := by decide +kernel
theorem dX7_turn_81 : decode cX7_turn 81 = .ok (.invokevirtual 80, 3) := by decide +kernel
theorem dX7_turn_84 : decode cX7_turn 84 = .ok (.iinc 3 1, 3) := by decide +kernel
theorem dX7_turn_87 : decode cX7_turn 87 = .ok (.goto (-61), 3) := by decide +kernel
theorem dX7_turn_90 : decode cX7_turn 90 = .ok (.aload_n 0, 1) := by decide +kernel
theorem dX7_turn_91 : decode cX7_turn 91 = .ok (.getfield 30, 3) := by decide +kernel
theorem dX7_turn_94 : decode cX7_turn 94 = .ok (.aload_n 2, 1) := by decide +kernel
theorem dX7_turn_95 : decode cX7_turn 95 = .ok (.iconst 0, 1) := by decide +kernel
theorem dX7_turn_96 : decode cX7_turn 96 = .ok (.invokevirtual 106, 3) := by decide +kernel
theorem dX7_turn_99 : decode cX7_turn 99 = .ok (.aload_n 0, 1) := by decide +kernel
theorem dX7_turn_100 : decode cX7_turn 100 = .ok (.invokevirtual 88, 3) := by decide +kernel
theorem dX7_turn_103 : decode cX7_turn 103 = .ok (.ireturn, 1) := by decide +kernel
set_option maxRecDepth 20000 in
theorem ggX7_compose_X7_needMachine : GoodIn wsX7_compose wsX7_needMachine := goodIn_ca (goodIn_g _ [(10, 4), (154, 8)] (by exact rfl) (by decide +kernel)) (goodIn_sub (fun _ h => List.mem_cons_of_mem _ (List.mem_append_right _ h)) (by decide +kernel))
set_option maxRecDepth 20000 in
theorem gX7_compose_X7_needMachine : GoodIn wsX7_compose (wsV RX7 92 RX7 yX7_needMachine wsX7_needMachine) := goodIn_app (goodIn_of _ (by decide +kernel)) ggX7_compose_X7_needMachine
set_option maxRecDepth 20000 in
theorem ggX7_compose_X1_begin : GoodIn wsX7_compose wsX1_begin := goodIn_g _ [(18, 9), (165, 13)] (by exact rfl) (by decide +kernel)
set_option maxRecDepth 20000 in
theorem gX7_compose_X1_begin : GoodIn wsX7_compose (wsV RX7 76 RX1 yX1_begin wsX1_begin) := goodIn_app (goodIn_of _ (by decide +kernel)) ggX7_compose_X1_begin
set_option maxRecDepth 20000 in
theorem ggX7_compose_X7_addMeetings : GoodIn wsX7_compose wsX7_addMeetings := goodIn_g _ [(30, 6), (4, 2), (36, 2), (9, 1), (38, 13), (17, 1), (51, 1), (25, 1), (23, 1), (52, 4), (162, 3), (178, 3), (154, 8), (165, 13)] (by exact rfl) (by decide +kernel)
set_option maxRecDepth 20000 in
theorem gX7_compose_X7_addMeetings : GoodIn wsX7_compose (wsV RX7 141 RX7 yX7_addMeetings wsX7_addMeetings) := goodIn_app (goodIn_of _ (by decide +kernel)) ggX7_compose_X7_addMeetings
set_option maxRecDepth 20000 in
theorem ggX7_compose_X7_addMovesOfOne : GoodIn wsX7_compose wsX7_addMovesOfOne := goodIn_g _ [(59, 1), (31, 3), (4, 1), (34, 1), (36, 2), (9, 1), (38, 1), (42, 3), (39, 3), (45, 6), (17, 1), (51, 1), (25, 1), (23, 1), (52, 4), (162, 3), (178, 3), (154, 8), (165, 13)] (by exact rfl) (by decide +kernel)
set_option maxRecDepth 20000 in
theorem gX7_compose_X7_addMovesOfOne : GoodIn wsX7_compose (wsV RX7 147 RX7 yX7_addMovesOfOne wsX7_addMovesOfOne) := goodIn_app (goodIn_of _ (by decide +kernel)) ggX7_compose_X7_addMovesOfOne
set_option maxRecDepth 20000 in
theorem ggX7_compose_X7_addMovesOfOther : GoodIn wsX7_compose wsX7_addMovesOfOther := goodIn_g _ [(63, 1), (31, 3), (5, 1), (4, 1), (34, 1), (39, 2), (9, 1), (41, 4), (36, 3), (45, 6), (17, 1), (51, 1), (25, 1), (23, 1), (52, 4), (162, 3), (178, 3), (154, 8), (165, 13)] (by exact rfl) (by decide +kernel)
set_option maxRecDepth 20000 in
theorem gX7_compose_X7_addMovesOfOther : GoodIn wsX7_compose (wsV RX7 150 RX7 yX7_addMovesOfOther wsX7_addMovesOfOther) := goodIn_app (goodIn_of _ (by decide +kernel)) ggX7_compose_X7_addMovesOfOther
set_option maxRecDepth 20000 in
theorem ggX7_compose_X7_addEndsOfBoth : GoodIn wsX7_compose wsX7_addEndsOfBoth := goodIn_g _ [(67, 1), (5, 1), (68, 1), (4, 1), (69, 2), (9, 1), (71, 4), (17, 1), (75, 7), (23, 1), (26, 1), (162, 3), (154, 8), (165, 13)] (by exact rfl) (by decide +kernel)
set_option maxRecDepth 20000 in
theorem gX7_compose_X7_addEndsOfBoth : GoodIn wsX7_compose (wsV RX7 153 RX7 yX7_addEndsOfBoth wsX7_addEndsOfBoth) := goodIn_app (goodIn_of _ (by decide +kernel)) ggX7_compose_X7_addEndsOfBoth
set_option maxRecDepth 20000 in
theorem ggX7_compose_X7_keepDraft : GoodIn wsX7_compose wsX7_keepDraft := goodIn_ca (goodIn_g _ [(85, 1), (1, 2), (13, 1), (4, 1), (3, 1), (86, 3), (17, 1), (89, 1), (76, 2), (90, 3), (24, 1), (93, 4), (23, 1), (97, 7), (25, 1), (52, 1), (104, 1), (43, 1), (9, 1), (44, 1), (46, 2), (105, 8), (26, 1), (113, 5), (53, 1), (118, 9), (20, 3), (127, 18), (54, 2), (145, 9), (40, 2), (37, 2), (154, 11), (178, 3), (165, 13)] (by exact rfl) (by decide +kernel)) (goodIn_sub (fun _ h => List.mem_cons_of_mem _ (List.mem_append_left _ (List.mem_append_right _ h))) (by decide +kernel))
set_option maxRecDepth 20000 in
theorem gX7_compose_X7_keepDraft : GoodIn wsX7_compose (wsV RX7 88 RX7 yX7_keepDraft wsX7_keepDraft) := goodIn_app (goodIn_of _ (by decide +kernel)) ggX7_compose_X7_keepDraft
theorem dX7_compose_0 : decode cX7_compose 0 = .ok (.aload_n 0, 1) := by decide +kernel
theorem dX7_compose_1 : decode cX7_compose 1 = .ok (.iload_n 1, 1) := by decide +kernel
theorem dX7_compose_2 : decode cX7_compose 2 = .ok (.invokevirtual 92, 3) := by decide +kernel
theorem dX7_compose_5 : decode cX7_compose 5 = .ok (.aload_n 0, 1) := by decide +kernel
theorem dX7_compose_6 : decode cX7_compose 6 = .ok (.iload_n 2, 1) := by decide +kernel
theorem dX7_compose_7 : decode cX7_compose 7 = .ok (.invokevirtual 92, 3) := by decide +kernel
theorem dX7_compose_10 : decode cX7_compose 10 = .ok (.aload_n 0, 1) := by decide +kernel
theorem dX7_compose_11 : decode cX7_compose 11 = .ok (.getfield 19, 3) := by decide +kernel
theorem dX7_compose_14 : decode cX7_compose 14 = .ok (.iload_n 1, 1) := by decide +kernel
theorem dX7_compose_15 : decode cX7_compose 15 = .ok (.aaload, 1) := by decide +kernel
theorem dX7_compose_16 : decode cX7_compose 16 = .ok (.astore_n 3, 1) := by decide +kernel
theorem dX7_compose_17 : decode cX7_compose 17 = .ok (.aload_n 0, 1) := by decide +kernel
theorem dX7_compose_18 : decode cX7_compose 18 = .ok (.getfield 19, 3) := by decide +kernel
theorem dX7_compose_21 : decode cX7_compose 21 = .ok (.iload_n 2, 1) := by decide +kernel
theorem dX7_compose_22 : decode cX7_compose 22 = .ok (.aaload, 1) := by decide +kernel
theorem dX7_compose_23 : decode cX7_compose 23 = .ok (.astore 4, 2) := by decide +kernel
theorem dX7_compose_25 : decode cX7_compose 25 = .ok (.aload_n 0, 1) := by decide +kernel
theorem dX7_compose_26 : decode cX7_compose 26 = .ok (.getfield 30, 3) := by decide +kernel
theorem dX7_compose_29 : decode cX7_compose 29 = .ok (.aload_n 3, 1) := by decide +kernel
theorem dX7_compose_30 : decode cX7_compose 30 = .ok (.getfield 95, 3) := by decide +kernel
theorem dX7_compose_33 : decode cX7_compose 33 = .ok (.aload 4, 2) := by decide +kernel
theorem dX7_compose_35 : decode cX7_compose 35 = .ok (.getfield 95, 3) := by decide +kernel
theorem dX7_compose_38 : decode cX7_compose 38 = .ok (.imul, 1) := by decide +kernel
theorem dX7_compose_39 : decode cX7_compose 39 = .ok (.iconst 0, 1) := by decide +kernel
theorem dX7_compose_40 : decode cX7_compose 40 = .ok (.invokevirtual 76, 3) := by decide +kernel
theorem dX7_compose_43 : decode cX7_compose 43 = .ok (.aload_n 0, 1) := by decide +kernel
theorem dX7_compose_44 : decode cX7_compose 44 = .ok (.aload_n 3, 1) := by decide +kernel
theorem dX7_compose_45 : decode cX7_compose 45 = .ok (.aload 4, 2) := by decide +kernel
theorem dX7_compose_47 : decode cX7_compose 47 = .ok (.invokevirtual 141, 3) := by decide +kernel
theorem dX7_compose_50 : decode cX7_compose 50 = .ok (.ifCond .ne 13, 3) := by decide +kernel
theorem dX7_compose_53 : decode cX7_compose 53 = .ok (.new 66, 3) := by decide +kernel
theorem dX7_compose_56 : decode cX7_compose 56 = .ok (.dup, 1) := by decide +kernel
theorem dX7_compose_57 : decode cX7_compose 57 = .ok (.ldc 145, 2) := by decide +kernel
theorem dX7_compose_59 : decode cX7_compose 59 = .ok (.invokespecial 70, 3) := by decide +kernel
theorem dX7_compose_62 : decode cX7_compose 62 = .ok (.athrow, 1) := by decide +kernel
theorem dX7_compose_63 : decode cX7_compose 63 = .ok (.aload_n 0, 1) := by decide +kernel
theorem dX7_compose_64 : decode cX7_compose 64 = .ok (.aload_n 3, 1) := by decide +kernel
theorem dX7_compose_65 : decode cX7_compose 65 = .ok (.aload 4, 2) := by decide +kernel
theorem dX7_compose_67 : decode cX7_compose 67 = .ok (.getfield 95, 3) := by decide +kernel
theorem dX7_compose_70 : decode cX7_compose 70 = .ok (.invokevirtual 147, 3) := by decide +kernel
theorem dX7_compose_73 : decode cX7_compose 73 = .ok (.aload_n 0, 1) := by decide +kernel
theorem dX7_compose_74 : decode cX7_compose 74 = .ok (.aload 4, 2) := by decide +kernel
theorem dX7_compose_76 : decode cX7_compose 76 = .ok (.aload_n 3, 1) := by decide +kernel
theorem dX7_compose_77 : decode cX7_compose 77 = .ok (.getfield 95, 3) := by decide +kernel
theorem dX7_compose_80 : decode cX7_compose 80 = .ok (.invokevirtual 150, 3) := by decide +kernel
theorem dX7_compose_83 : decode cX7_compose 83 = .ok (.aload_n 0, 1) := by decide +kernel
theorem dX7_compose_84 : decode cX7_compose 84 = .ok (.aload_n 3, 1) := by decide +kernel
theorem dX7_compose_85 : decode cX7_compose 85 = .ok (.aload 4, 2) := by decide +kernel
theorem dX7_compose_87 : decode cX7_compose 87 = .ok (.invokevirtual 153, 3) := by decide +kernel
theorem dX7_compose_90 : decode cX7_compose 90 = .ok (.aload_n 0, 1) := by decide +kernel
theorem dX7_compose_91 : decode cX7_compose 91 = .ok (.invokevirtual 88, 3) := by decide +kernel
theorem dX7_compose_94 : decode cX7_compose 94 = .ok (.ireturn, 1) := by decide +kernel
set_option maxRecDepth 20000 in
theorem ggX7_side_X7_needMachine : GoodIn wsX7_side wsX7_needMachine := goodIn_ca (goodIn_g _ [(11, 4), (134, 8)] (by exact rfl) (by decide +kernel)) (goodIn_sub (fun _ h => List.mem_cons_of_mem _ (List.mem_append_left _ (List.mem_append_right _ h))) (by decide +kernel))
set_option maxRecDepth 20000 in
theorem gX7_side_X7_needMachine : GoodIn wsX7_side (wsV RX7 92 RX7 yX7_needMachine wsX7_needMachine) := goodIn_app (goodIn_of _ (by decide +kernel)) ggX7_side_X7_needMachine
set_option maxRecDepth 20000 in
theorem ggX7_side_X1_begin : GoodIn wsX7_side wsX1_begin := goodIn_g _ [(19, 9), (148, 13)] (by exact rfl) (by decide +kernel)
set_option maxRecDepth 20000 in
theorem gX7_side_X1_begin : GoodIn wsX7_side (wsV RX7 76 RX1 yX1_begin wsX1_begin) := goodIn_app (goodIn_of _ (by decide +kernel)) ggX7_side_X1_begin
set_option maxRecDepth 20000 in
theorem ggX7_side_X7_upperOf : GoodIn wsX7_side wsX7_upperOf := goodIn_g _ [(30, 1)] (by exact rfl) (by decide +kernel)
set_option maxRecDepth 20000 in
theorem gX7_side_X7_upperOf : GoodIn wsX7_side (va_wsS RX7 132 yX7_upperOf wsX7_upperOf) := goodIn_app (goodIn_of _ (by decide +kernel)) ggX7_side_X7_upperOf
set_option maxRecDepth 20000 in
theorem ggX7_side_X7_lowerOf : GoodIn wsX7_side wsX7_lowerOf := goodIn_g _ [(33, 1)] (by exact rfl) (by decide +kernel)
set_option maxRecDepth 20000 in
theorem gX7_side_X7_lowerOf : GoodIn wsX7_side (va_wsS RX7 129 yX7_lowerOf wsX7_lowerOf) := goodIn_app (goodIn_of _ (by decide +kernel)) ggX7_side_X7_lowerOf
set_option maxRecDepth 20000 in
theorem ggX7_side_X7_fromOf : GoodIn wsX7_side wsX7_fromOf := goodIn_g _ [(36, 1)] (by exact rfl) (by decide +kernel)
set_option maxRecDepth 20000 in
theorem gX7_side_X7_fromOf : GoodIn wsX7_side (va_wsS RX7 125 yX7_fromOf wsX7_fromOf) := goodIn_app (goodIn_of _ (by decide +kernel)) ggX7_side_X7_fromOf
set_option maxRecDepth 20000 in
theorem ggX7_side_X7_toOf : GoodIn wsX7_side wsX7_toOf := goodIn_g _ [(39, 1)] (by exact rfl) (by decide +kernel)
set_option maxRecDepth 20000 in
theorem gX7_side_X7_toOf : GoodIn wsX7_side (va_wsS RX7 138 yX7_toOf wsX7_toOf) := goodIn_app (goodIn_of _ (by decide +kernel)) ggX7_side_X7_toOf
set_option maxRecDepth 20000 in
theorem ggX7_side_X1_addArc : GoodIn wsX7_side wsX1_addArc := goodIn_g _ [(43, 1), (26, 1), (24, 1), (44, 3), (10, 1), (47, 1), (148, 13)] (by exact rfl) (by decide +kernel)
set_option maxRecDepth 20000 in
theorem gX7_side_X1_addArc : GoodIn wsX7_side (wsV RX7 80 RX1 yX1_addArc wsX1_addArc) := goodIn_app (goodIn_of _ (by decide +kernel)) ggX7_side_X1_addArc
set_option maxRecDepth 20000 in
theorem ggX7_side_X1_addEndsOf : GoodIn wsX7_side wsX1_addEndsOf := goodIn_g _ [(51, 4), (10, 1), (55, 4), (18, 1), (59, 1), (24, 1), (27, 1), (142, 3), (148, 13)] (by exact rfl) (by decide +kernel)
set_option maxRecDepth 20000 in
theorem gX7_side_X1_addEndsOf : GoodIn wsX7_side (wsV RX7 106 RX1 yX1_addEndsOf wsX1_addEndsOf) := goodIn_app (goodIn_of _ (by decide +kernel)) ggX7_side_X1_addEndsOf
set_option maxRecDepth 20000 in
theorem ggX7_side_X7_keepDraft : GoodIn wsX7_side wsX7_keepDraft := goodIn_ca (goodIn_g _ [(63, 3), (14, 1), (2, 1), (1, 1), (66, 3), (18, 1), (69, 1), (52, 2), (70, 3), (25, 1), (73, 4), (24, 1), (77, 7), (26, 1), (44, 1), (84, 1), (35, 1), (10, 1), (36, 1), (38, 2), (85, 8), (27, 1), (93, 5), (45, 1), (98, 9), (21, 3), (107, 18), (46, 2), (125, 9), (29, 2), (32, 2), (134, 27)] (by exact rfl) (by decide +kernel)) (goodIn_sub (fun _ h => List.mem_cons_of_mem _ (List.mem_append_right _ h)) (by decide +kernel))
set_option maxRecDepth 20000 in
theorem gX7_side_X7_keepDraft : GoodIn wsX7_side (wsV RX7 88 RX7 yX7_keepDraft wsX7_keepDraft) := goodIn_app (goodIn_of _ (by decide +kernel)) ggX7_side_X7_keepDraft
theorem dX7_side_0 : decode cX7_side 0 = .ok (.aload_n 0, 1) := by decide +kernel
theorem dX7_side_1 : decode cX7_side 1 = .ok (.iload_n 1, 1) := by decide +kernel
theorem dX7_side_2 : decode cX7_side 2 = .ok (.invokevirtual 92, 3) := by decide +kernel
theorem dX7_side_5 : decode cX7_side 5 = .ok (.aload_n 0, 1) := by decide +kernel
theorem dX7_side_6 : decode cX7_side 6 = .ok (.getfield 19, 3) := by decide +kernel
theorem dX7_side_9 : decode cX7_side 9 = .ok (.iload_n 1, 1) := by decide +kernel
theorem dX7_side_10 : decode cX7_side 10 = .ok (.aaload, 1) := by decide +kernel
theorem dX7_side_11 : decode cX7_side 11 = .ok (.astore_n 3, 1) := by decide +kernel
theorem dX7_side_12 : decode cX7_side 12 = .ok (.aload_n 0, 1) := by decide +kernel
theorem dX7_side_13 : decode cX7_side 13 = .ok (.getfield 30, 3) := by decide +kernel
theorem dX7_side_16 : decode cX7_side 16 = .ok (.aload_n 3, 1) := by decide +kernel
theorem dX7_side_17 : decode cX7_side 17 = .ok (.getfield 95, 3) := by decide +kernel
theorem dX7_side_20 : decode cX7_side 20 = .ok (.iconst 0, 1) := by decide +kernel
theorem dX7_side_21 : decode cX7_side 21 = .ok (.invokevirtual 76, 3) := by decide +kernel
theorem dX7_side_24 : decode cX7_side 24 = .ok (.iconst 0, 1) := by decide +kernel
theorem dX7_side_25 : decode cX7_side 25 = .ok (.istore 4, 2) := by decide +kernel
theorem dX7_side_27 : decode cX7_side 27 = .ok (.iload 4, 2) := by decide +kernel
theorem dX7_side_29 : decode cX7_side 29 = .ok (.aload_n 3, 1) := by decide +kernel
theorem dX7_side_30 : decode cX7_side 30 = .ok (.getfield 115, 3) := by decide +kernel
theorem dX7_side_33 : decode cX7_side 33 = .ok (.getfield 119, 3) := by decide +kernel
theorem dX7_side_36 : decode cX7_side 36 = .ok (.if_icmp .ge 62, 3) := by decide +kernel
theorem dX7_side_39 : decode cX7_side 39 = .ok (.aload_n 3, 1) := by decide +kernel
theorem dX7_side_40 : decode cX7_side 40 = .ok (.getfield 115, 3) := by decide +kernel
theorem dX7_side_43 : decode cX7_side 43 = .ok (.getfield 122, 3) := by decide +kernel
theorem dX7_side_46 : decode cX7_side 46 = .ok (.iload 4, 2) := by decide +kernel
theorem dX7_side_48 : decode cX7_side 48 = .ok (.iaload, 1) := by decide +kernel
theorem dX7_side_49 : decode cX7_side 49 = .ok (.istore 5, 2) := by decide +kernel
theorem dX7_side_51 : decode cX7_side 51 = .ok (.iload_n 2, 1) := by decide +kernel
theorem dX7_side_52 : decode cX7_side 52 = .ok (.ifCond .eq 11, 3) := by decide +kernel
theorem dX7_side_55 : decode cX7_side 55 = .ok (.iload 5, 2) := by decide +kernel
theorem dX7_side_57 : decode cX7_side 57 = .ok (.invokestatic 132, 3) := by decide +kernel
theorem dX7_side_60 : decode cX7_side 60 = .ok (.goto 8, 3) := by decide +kernel
theorem dX7_side_63 : decode cX7_side 63 = .ok (.iload 5, 2) := by decide +kernel
theorem dX7_side_65 : decode cX7_side 65 = .ok (.invokestatic 129, 3) := by decide +kernel
theorem dX7_side_68 : decode cX7_side 68 = .ok (.istore 6, 2) := by decide +kernel
theorem dX7_side_70 : decode cX7_side 70 = .ok (.aload_n 0, 1) := by decide +kernel
theorem dX7_side_71 : decode cX7_side 71 = .ok (.getfield 30, 3) := by decide +kernel
theorem dX7_side_74 : decode cX7_side 74 = .ok (.iload 5, 2) := by decide +kernel
theorem dX7_side_76 : decode cX7_side 76 = .ok (.invokestatic 125, 3) := by decide +kernel
theorem dX7_side_79 : decode cX7_side 79 = .ok (.iload 6, 2) := by decide +kernel
theorem dX7_side_81 : decode cX7_side 81 = .ok (.iload 6, 2) := by decide +kernel
theorem dX7_side_83 : decode cX7_side 83 = .ok (.iconst 0, 1) := by decide +kernel
theorem dX7_side_84 : decode cX7_side 84 = .ok (.iload 5, 2) := by decide +kernel
theorem dX7_side_86 : decode cX7_side 86 = .ok (.invokestatic 138, 3) := by decide +kernel
theorem dX7_side_89 : decode cX7_side 89 = .ok (.invokevirtual 80, 3) := by decide +kernel
theorem dX7_side_92 : decode cX7_side 92 = .ok (.iinc 4 1, 3) := by decide +kernel
theorem dX7_side_95 : decode cX7_side 95 = .ok (.goto (-68), 3) := by decide +kernel
theorem dX7_side_98 : decode cX7_side 98 = .ok (.aload_n 0, 1) := by decide +kernel
theorem dX7_side_99 : decode cX7_side 99 = .ok (.getfield 30, 3) := by decide +kernel
theorem dX7_side_102 : decode cX7_side 102 = .ok (.aload_n 3, 1) := by decide +kernel
theorem dX7_side_103 : decode cX7_side 103 = .ok (.iconst 0, 1) := by decide +kernel
theorem dX7_side_104 : decode cX7_side 104 = .ok (.invokevirtual 106, 3) := by decide +kernel
theorem dX7_side_107 : decode cX7_side 107 = .ok (.aload_n 0, 1) := by decide +kernel
theorem dX7_side_108 : decode cX7_side 108 = .ok (.invokevirtual 88, 3) := by decide +kernel
theorem dX7_side_111 : decode cX7_side 111 = .ok (.ireturn, 1) := by decide +kernel
set_option maxRecDepth 20000 in
theorem ggX7_least_X7_needMachine : GoodIn wsX7_least wsX7_needMachine := goodIn_ca (goodIn_g _ [(8, 4), (250, 8)] (by exact rfl) (by decide +kernel)) (goodIn_sub (fun _ h => List.mem_cons_of_mem _ (List.mem_append_left _ (List.mem_append_right _ h))) (by decide +kernel))
set_option maxRecDepth 20000 in
theorem gX7_least_X7_needMachine : GoodIn wsX7_least (wsV RX7 92 RX7 yX7_needMachine wsX7_needMachine) := goodIn_app (goodIn_of _ (by decide +kernel)) ggX7_least_X7_needMachine
set_option maxRecDepth 20000 in
theorem ggX7_least_X7_needPlain : GoodIn wsX7_least wsX7_needPlain := goodIn_ca (goodIn_g _ [(15, 3), (2, 1), (18, 10), (7, 1), (28, 3), (250, 14)] (by exact rfl) (by decide +kernel)) (goodIn_sub (fun _ h => List.mem_cons_of_mem _ (List.mem_append_right _ h)) (by decide +kernel))
set_option maxRecDepth 20000 in
theorem gX7_least_X7_needPlain : GoodIn wsX7_least (wsV RX7 157 RX7 yX7_needPlain wsX7_needPlain) := goodIn_app (goodIn_of _ (by decide +kernel)) ggX7_least_X7_needPlain
set_option maxRecDepth 20000 in
theorem ggX7_least_X5_exploreOne : GoodIn wsX7_least wsX5_exploreOne := goodIn_g _ [(35, 23), (7, 1), (58, 3), (27, 2), (61, 7), (34, 1), (68, 29), (264, 13), (258, 3), (277, 4), (261, 3)] (by exact rfl) (by decide +kernel)
set_option maxRecDepth 20000 in
theorem gX7_least_X5_exploreOne : GoodIn wsX7_least (wsV RX7 160 RX5 yX5_exploreOne wsX5_exploreOne) := goodIn_app (goodIn_of _ (by decide +kernel)) ggX7_least_X5_exploreOne
set_option maxRecDepth 20000 in
theorem ggX7_least_X7_needSets : GoodIn wsX7_least wsX7_needSets := goodIn_ca (goodIn_g _ [(99, 1), (16, 2)] (by exact rfl) (by decide +kernel)) (goodIn_sub (fun _ h => List.mem_cons_of_mem _ (List.mem_append_right _ h)) (by decide +kernel))
set_option maxRecDepth 20000 in
theorem gX7_least_X7_needSets : GoodIn wsX7_least (va_wsS RX7 164 yX7_needSets wsX7_needSets) := goodIn_app (goodIn_of _ (by decide +kernel)) ggX7_least_X7_needSets
set_option maxRecDepth 20000 in
theorem ggX7_least_X5_draw : GoodIn wsX7_least wsX5_draw := goodIn_g _ [(103, 6), (34, 1), (109, 1), (69, 1), (110, 4), (36, 1), (70, 1), (37, 1), (71, 1), (38, 1), (114, 3), (42, 1), (117, 1), (47, 1), (118, 4), (72, 1), (122, 50), (7, 1), (172, 1), (264, 30)] (by exact rfl) (by decide +kernel)
set_option maxRecDepth 20000 in
theorem gX7_least_X5_draw : GoodIn wsX7_least (wsV RX7 168 RX5 yX5_draw wsX5_draw) := goodIn_app (goodIn_of _ (by decide +kernel)) ggX7_least_X5_draw
set_option maxRecDepth 20000 in
theorem ggX7_least_X7_needStates : GoodIn wsX7_least wsX7_needStates := goodIn_ca (goodIn_g _ [(175, 1), (16, 2)] (by exact rfl) (by decide +kernel)) (goodIn_sub (fun _ h => List.mem_cons_of_mem _ (List.mem_append_right _ h)) (by decide +kernel))
set_option maxRecDepth 20000 in
theorem gX7_least_X7_needStates : GoodIn wsX7_least (va_wsS RX7 172 yX7_needStates wsX7_needStates) := goodIn_app (goodIn_of _ (by decide +kernel)) ggX7_least_X7_needStates
set_option maxRecDepth 20000 in
theorem ggX7_least_X7_keepDraft : GoodIn wsX7_least wsX7_keepDraft := goodIn_ca (goodIn_g _ [(179, 1), (16, 2), (11, 1), (3, 1), (2, 1), (180, 3), (125, 1), (183, 6), (132, 1), (189, 4), (131, 1), (193, 7), (133, 1), (169, 1), (200, 1), (57, 1), (7, 1), (58, 3), (201, 8), (134, 1), (209, 5), (170, 1), (214, 9), (128, 3), (223, 18), (171, 2), (241, 9), (27, 4), (250, 14), (281, 13)] (by exact rfl) (by decide +kernel)) (goodIn_sub (fun _ h => List.mem_cons_of_mem _ (List.mem_append_right _ h)) (by decide +kernel))
set_option maxRecDepth 20000 in
theorem gX7_least_X7_keepDraft : GoodIn wsX7_least (wsV RX7 88 RX7 yX7_keepDraft wsX7_keepDraft) := goodIn_app (goodIn_of _ (by decide +kernel)) ggX7_least_X7_keepDraft
theorem dX7_least_0 : decode cX7_least 0 = .ok (.aload_n 0, 1) := by decide +kernel
theorem dX7_least_1 : decode cX7_least 1 = .ok (.iload_n 1, 1) := by decide +kernel
theorem dX7_least_2 : decode cX7_least 2 = .ok (.invokevirtual 92, 3) := by decide +kernel
theorem dX7_least_5 : decode cX7_least 5 = .ok (.aload_n 0, 1) := by decide +kernel
theorem dX7_least_6 : decode cX7_least 6 = .ok (.iload_n 1, 1) := by decide +kernel
theorem dX7_least_7 : decode cX7_least 7 = .ok (.invokevirtual 157, 3) := by decide +kernel
theorem dX7_least_10 : decode cX7_least 10 = .ok (.aload_n 0, 1) := by decide +kernel
theorem dX7_least_11 : decode cX7_least 11 = .ok (.getfield 37, 3) := by decide +kernel
theorem dX7_least_14 : decode cX7_least 14 = .ok (.aload_n 0, 1) := by decide +kernel
theorem dX7_least_15 : decode cX7_least 15 = .ok (.getfield 19, 3) := by decide +kernel
theorem dX7_least_18 : decode cX7_least 18 = .ok (.iload_n 1, 1) := by decide +kernel
theorem dX7_least_19 : decode cX7_least 19 = .ok (.aaload, 1) := by decide +kernel
theorem dX7_least_20 : decode cX7_least 20 = .ok (.invokevirtual 160, 3) := by decide +kernel
theorem dX7_least_23 : decode cX7_least 23 = .ok (.invokestatic 164, 3) := by decide +kernel
theorem dX7_least_26 : decode cX7_least 26 = .ok (.aload_n 0, 1) := by decide +kernel
theorem dX7_least_27 : decode cX7_least 27 = .ok (.getfield 37, 3) := by decide +kernel
theorem dX7_least_30 : decode cX7_least 30 = .ok (.aload_n 0, 1) := by decide +kernel
theorem dX7_least_31 : decode cX7_least 31 = .ok (.getfield 30, 3) := by decide +kernel
theorem dX7_least_34 : decode cX7_least 34 = .ok (.invokevirtual 168, 3) := by decide +kernel
theorem dX7_least_37 : decode cX7_least 37 = .ok (.invokestatic 172, 3) := by decide +kernel
theorem dX7_least_40 : decode cX7_least 40 = .ok (.aload_n 0, 1) := by decide +kernel
theorem dX7_least_41 : decode cX7_least 41 = .ok (.invokevirtual 88, 3) := by decide +kernel
theorem dX7_least_44 : decode cX7_least 44 = .ok (.ireturn, 1) := by decide +kernel
set_option maxRecDepth 20000 in
theorem ggX7_meet_X7_needMachine : GoodIn wsX7_meet wsX7_needMachine := goodIn_ca (goodIn_g _ [(8, 4), (246, 8)] (by exact rfl) (by decide +kernel)) (goodIn_sub (fun _ h => List.mem_cons_of_mem _ (List.mem_append_left _ (List.mem_append_right _ h))) (by decide +kernel))
set_option maxRecDepth 20000 in
theorem gX7_meet_X7_needMachine : GoodIn wsX7_meet (wsV RX7 92 RX7 yX7_needMachine wsX7_needMachine) := goodIn_app (goodIn_of _ (by decide +kernel)) ggX7_meet_X7_needMachine
set_option maxRecDepth 20000 in
theorem ggX7_meet_X7_needPlain : GoodIn wsX7_meet wsX7_needPlain := goodIn_ca (goodIn_g _ [(15, 3), (2, 1), (18, 10), (7, 1), (28, 3), (246, 14)] (by exact rfl) (by decide +kernel)) (goodIn_sub (fun _ h => List.mem_cons_of_mem _ (List.mem_append_right _ h)) (by decide +kernel))
set_option maxRecDepth 20000 in
theorem gX7_meet_X7_needPlain : GoodIn wsX7_meet (wsV RX7 157 RX7 yX7_needPlain wsX7_needPlain) := goodIn_app (goodIn_of _ (by decide +kernel)) ggX7_meet_X7_needPlain
set_option maxRecDepth 20000 in
theorem ggX7_meet_X5_exploreTwo : GoodIn wsX7_meet wsX5_exploreTwo := goodIn_g _ [(35, 23), (7, 1), (58, 3), (27, 2), (61, 3), (34, 1), (64, 29), (260, 13), (254, 3), (273, 4), (257, 3)] (by exact rfl) (by decide +kernel)
set_option maxRecDepth 20000 in
theorem gX7_meet_X5_exploreTwo : GoodIn wsX7_meet (wsV RX7 175 RX5 yX5_exploreTwo wsX5_exploreTwo) := goodIn_app (goodIn_of _ (by decide +kernel)) ggX7_meet_X5_exploreTwo
set_option maxRecDepth 20000 in
theorem ggX7_meet_X7_needSets : GoodIn wsX7_meet wsX7_needSets := goodIn_ca (goodIn_g _ [(95, 1), (16, 2)] (by exact rfl) (by decide +kernel)) (goodIn_sub (fun _ h => List.mem_cons_of_mem _ (List.mem_append_right _ h)) (by decide +kernel))
set_option maxRecDepth 20000 in
theorem gX7_meet_X7_needSets : GoodIn wsX7_meet (va_wsS RX7 164 yX7_needSets wsX7_needSets) := goodIn_app (goodIn_of _ (by decide +kernel)) ggX7_meet_X7_needSets
set_option maxRecDepth 20000 in
theorem ggX7_meet_X5_draw : GoodIn wsX7_meet wsX5_draw := goodIn_g _ [(99, 6), (34, 1), (105, 1), (65, 1), (106, 4), (36, 1), (66, 1), (37, 1), (67, 1), (38, 1), (110, 3), (42, 1), (113, 1), (47, 1), (114, 4), (68, 1), (118, 50), (7, 1), (168, 1), (260, 30)] (by exact rfl) (by decide +kernel)
set_option maxRecDepth 20000 in
theorem gX7_meet_X5_draw : GoodIn wsX7_meet (wsV RX7 168 RX5 yX5_draw wsX5_draw) := goodIn_app (goodIn_of _ (by decide +kernel)) ggX7_meet_X5_draw
set_option maxRecDepth 20000 in
theorem ggX7_meet_X7_needStates : GoodIn wsX7_meet wsX7_needStates := goodIn_ca (goodIn_g _ [(171, 1), (16, 2)] (by exact rfl) (by decide +kernel)) (goodIn_sub (fun _ h => List.mem_cons_of_mem _ (List.mem_append_right _ h)) (by decide +kernel))
set_option maxRecDepth 20000 in
theorem gX7_meet_X7_needStates : GoodIn wsX7_meet (va_wsS RX7 172 yX7_needStates wsX7_needStates) := goodIn_app (goodIn_of _ (by decide +kernel)) ggX7_meet_X7_needStates
set_option maxRecDepth 20000 in
theorem ggX7_meet_X7_keepDraft : GoodIn wsX7_meet wsX7_keepDraft := goodIn_ca (goodIn_g _ [(175, 1), (16, 2), (11, 1), (3, 1), (2, 1), (176, 3), (121, 1), (179, 6), (128, 1), (185, 4), (127, 1), (189, 7), (129, 1), (165, 1), (196, 1), (57, 1), (7, 1), (58, 3), (197, 8), (130, 1), (205, 5), (166, 1), (210, 9), (124, 3), (219, 18), (167, 2), (237, 9), (27, 4), (246, 14), (277, 13)] (by exact rfl) (by decide +kernel)) (goodIn_sub (fun _ h => List.mem_cons_of_mem _ (List.mem_append_right _ h)) (by decide +kernel))
