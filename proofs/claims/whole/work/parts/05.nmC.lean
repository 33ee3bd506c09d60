theorem dX7_init_0 : decode cX7_init 0 = .ok (.aload_n 0, 1) := by decide +kernel
theorem dX7_init_1 : decode cX7_init 1 = .ok (.invokespecial 3, 3) := by decide +kernel
theorem dX7_init_4 : decode cX7_init 4 = .ok (.aload_n 0, 1) := by decide +kernel
theorem dX7_init_5 : decode cX7_init 5 = .ok (.bipush 8, 2) := by decide +kernel
theorem dX7_init_7 : decode cX7_init 7 = .ok (.newarray .int, 2) := by decide +kernel
theorem dX7_init_9 : decode cX7_init 9 = .ok (.putfield 9, 3) := by decide +kernel
theorem dX7_init_12 : decode cX7_init 12 = .ok (.aload_n 0, 1) := by decide +kernel
theorem dX7_init_13 : decode cX7_init 13 = .ok (.iconst 0, 1) := by decide +kernel
theorem dX7_init_14 : decode cX7_init 14 = .ok (.putfield 13, 3) := by decide +kernel
theorem dX7_init_17 : decode cX7_init 17 = .ok (.aload_n 0, 1) := by decide +kernel
theorem dX7_init_18 : decode cX7_init 18 = .ok (.bipush 24, 2) := by decide +kernel
theorem dX7_init_20 : decode cX7_init 20 = .ok (.anewarray 17, 3) := by decide +kernel
theorem dX7_init_23 : decode cX7_init 23 = .ok (.putfield 19, 3) := by decide +kernel
theorem dX7_init_26 : decode cX7_init 26 = .ok (.iconst 0, 1) := by decide +kernel
theorem dX7_init_27 : decode cX7_init 27 = .ok (.istore_n 1, 1) := by decide +kernel
theorem dX7_init_28 : decode cX7_init 28 = .ok (.iload_n 1, 1) := by decide +kernel
theorem dX7_init_29 : decode cX7_init 29 = .ok (.bipush 24, 2) := by decide +kernel
theorem dX7_init_31 : decode cX7_init 31 = .ok (.if_icmp .ge 22, 3) := by decide +kernel
theorem dX7_init_34 : decode cX7_init 34 = .ok (.aload_n 0, 1) := by decide +kernel
theorem dX7_init_35 : decode cX7_init 35 = .ok (.getfield 19, 3) := by decide +kernel
theorem dX7_init_38 : decode cX7_init 38 = .ok (.iload_n 1, 1) := by decide +kernel
theorem dX7_init_39 : decode cX7_init 39 = .ok (.new 17, 3) := by decide +kernel
theorem dX7_init_42 : decode cX7_init 42 = .ok (.dup, 1) := by decide +kernel
theorem dX7_init_43 : decode cX7_init 43 = .ok (.invokespecial 23, 3) := by decide +kernel
theorem dX7_init_46 : decode cX7_init 46 = .ok (.aastore, 1) := by decide +kernel
theorem dX7_init_47 : decode cX7_init 47 = .ok (.iinc 1 1, 3) := by decide +kernel
theorem dX7_init_50 : decode cX7_init 50 = .ok (.goto (-22), 3) := by decide +kernel
theorem dX7_init_53 : decode cX7_init 53 = .ok (.aload_n 0, 1) := by decide +kernel
theorem dX7_init_54 : decode cX7_init 54 = .ok (.iconst 0, 1) := by decide +kernel
theorem dX7_init_55 : decode cX7_init 55 = .ok (.putfield 24, 3) := by decide +kernel
theorem dX7_init_58 : decode cX7_init 58 = .ok (.aload_n 0, 1) := by decide +kernel
theorem dX7_init_59 : decode cX7_init 59 = .ok (.new 27, 3) := by decide +kernel
theorem dX7_init_62 : decode cX7_init 62 = .ok (.dup, 1) := by decide +kernel
theorem dX7_init_63 : decode cX7_init 63 = .ok (.invokespecial 29, 3) := by decide +kernel
theorem dX7_init_66 : decode cX7_init 66 = .ok (.putfield 30, 3) := by decide +kernel
theorem dX7_init_69 : decode cX7_init 69 = .ok (.aload_n 0, 1) := by decide +kernel
theorem dX7_init_70 : decode cX7_init 70 = .ok (.new 34, 3) := by decide +kernel
theorem dX7_init_73 : decode cX7_init 73 = .ok (.dup, 1) := by decide +kernel
theorem dX7_init_74 : decode cX7_init 74 = .ok (.invokespecial 36, 3) := by decide +kernel
theorem dX7_init_77 : decode cX7_init 77 = .ok (.putfield 37, 3) := by decide +kernel
theorem dX7_init_80 : decode cX7_init 80 = .ok (.aload_n 0, 1) := by decide +kernel
theorem dX7_init_81 : decode cX7_init 81 = .ok (.new 41, 3) := by decide +kernel
theorem dX7_init_84 : decode cX7_init 84 = .ok (.dup, 1) := by decide +kernel
theorem dX7_init_85 : decode cX7_init 85 = .ok (.invokespecial 43, 3) := by decide +kernel
theorem dX7_init_88 : decode cX7_init 88 = .ok (.putfield 44, 3) := by decide +kernel
theorem dX7_init_91 : decode cX7_init 91 = .ok (.aload_n 0, 1) := by decide +kernel
theorem dX7_init_92 : decode cX7_init 92 = .ok (.new 48, 3) := by decide +kernel
theorem dX7_init_95 : decode cX7_init 95 = .ok (.dup, 1) := by decide +kernel
theorem dX7_init_96 : decode cX7_init 96 = .ok (.invokespecial 50, 3) := by decide +kernel
theorem dX7_init_99 : decode cX7_init 99 = .ok (.putfield 51, 3) := by decide +kernel
theorem dX7_init_102 : decode cX7_init 102 = .ok (.return_, 1) := by decide +kernel
set_option maxRecDepth 20000 in
theorem ggX7_type_X7_isLetter : GoodIn wsX7_type wsX7_isLetter := goodIn_r _ [10] rfl (by decide +kernel)
set_option maxRecDepth 20000 in
theorem gX7_type_X7_isLetter : GoodIn wsX7_type (va_wsS RX7 55 yX7_isLetter wsX7_isLetter) := goodIn_app (goodIn_of _ (by decide +kernel)) ggX7_type_X7_isLetter
theorem dX7_type_0 : decode cX7_type 0 = .ok (.iload_n 1, 1) := by decide +kernel
theorem dX7_type_1 : decode cX7_type 1 = .ok (.invokestatic 55, 3) := by decide +kernel
theorem dX7_type_4 : decode cX7_type 4 = .ok (.ifCond .ne 13, 3) := by decide +kernel
theorem dX7_type_7 : decode cX7_type 7 = .ok (.new 59, 3) := by decide +kernel
theorem dX7_type_10 : decode cX7_type 10 = .ok (.dup, 1) := by decide +kernel
theorem dX7_type_11 : decode cX7_type 11 = .ok (.ldc 61, 2) := by decide +kernel
theorem dX7_type_13 : decode cX7_type 13 = .ok (.invokespecial 63, 3) := by decide +kernel
theorem dX7_type_16 : decode cX7_type 16 = .ok (.athrow, 1) := by decide +kernel
theorem dX7_type_17 : decode cX7_type 17 = .ok (.aload_n 0, 1) := by decide +kernel
theorem dX7_type_18 : decode cX7_type 18 = .ok (.getfield 13, 3) := by decide +kernel
theorem dX7_type_21 : decode cX7_type 21 = .ok (.bipush 8, 2) := by decide +kernel
theorem dX7_type_23 : decode cX7_type 23 = .ok (.if_icmp .lt 13, 3) := by decide +kernel
theorem dX7_type_26 : decode cX7_type 26 = .ok (.new 66, 3) := by decide +kernel
theorem dX7_type_29 : decode cX7_type 29 = .ok (.dup, 1) := by decide +kernel
theorem dX7_type_30 : decode cX7_type 30 = .ok (.ldc 68, 2) := by decide +kernel
theorem dX7_type_32 : decode cX7_type 32 = .ok (.invokespecial 70, 3) := by decide +kernel
theorem dX7_type_35 : decode cX7_type 35 = .ok (.athrow, 1) := by decide +kernel
theorem dX7_type_36 : decode cX7_type 36 = .ok (.aload_n 0, 1) := by decide +kernel
theorem dX7_type_37 : decode cX7_type 37 = .ok (.getfield 9, 3) := by decide +kernel
theorem dX7_type_40 : decode cX7_type 40 = .ok (.aload_n 0, 1) := by decide +kernel
theorem dX7_type_41 : decode cX7_type 41 = .ok (.getfield 13, 3) := by decide +kernel
theorem dX7_type_44 : decode cX7_type 44 = .ok (.iload_n 1, 1) := by decide +kernel
theorem dX7_type_45 : decode cX7_type 45 = .ok (.iastore, 1) := by decide +kernel
theorem dX7_type_46 : decode cX7_type 46 = .ok (.aload_n 0, 1) := by decide +kernel
theorem dX7_type_47 : decode cX7_type 47 = .ok (.dup, 1) := by decide +kernel
theorem dX7_type_48 : decode cX7_type 48 = .ok (.getfield 13, 3) := by decide +kernel
theorem dX7_type_51 : decode cX7_type 51 = .ok (.iconst 1, 1) := by decide +kernel
theorem dX7_type_52 : decode cX7_type 52 = .ok (.iadd, 1) := by decide +kernel
theorem dX7_type_53 : decode cX7_type 53 = .ok (.putfield 13, 3) := by decide +kernel
theorem dX7_type_56 : decode cX7_type 56 = .ok (.aload_n 0, 1) := by decide +kernel
theorem dX7_type_57 : decode cX7_type 57 = .ok (.getfield 13, 3) := by decide +kernel
theorem dX7_type_60 : decode cX7_type 60 = .ok (.ireturn, 1) := by decide +kernel
theorem dX7_clear_0 : decode cX7_clear 0 = .ok (.aload_n 0, 1) := by decide +kernel
theorem dX7_clear_1 : decode cX7_clear 1 = .ok (.getfield 13, 3) := by decide +kernel
theorem dX7_clear_4 : decode cX7_clear 4 = .ok (.istore_n 1, 1) := by decide +kernel
theorem dX7_clear_5 : decode cX7_clear 5 = .ok (.aload_n 0, 1) := by decide +kernel
theorem dX7_clear_6 : decode cX7_clear 6 = .ok (.iconst 0, 1) := by decide +kernel
theorem dX7_clear_7 : decode cX7_clear 7 = .ok (.putfield 13, 3) := by decide +kernel
theorem dX7_clear_10 : decode cX7_clear 10 = .ok (.iload_n 1, 1) := by decide +kernel
theorem dX7_clear_11 : decode cX7_clear 11 = .ok (.ireturn, 1) := by decide +kernel
set_option maxRecDepth 20000 in
theorem ggX7_pair_X7_isLetterOrEmpty : GoodIn wsX7_pair wsX7_isLetterOrEmpty := goodIn_r _ [7, 8, 9, 6, 10] rfl (by decide +kernel)
set_option maxRecDepth 20000 in
theorem gX7_pair_X7_isLetterOrEmpty : GoodIn wsX7_pair (va_wsS RX7 71 yX7_isLetterOrEmpty wsX7_isLetterOrEmpty) := goodIn_app (goodIn_of _ (by decide +kernel)) ggX7_pair_X7_isLetterOrEmpty
set_option maxRecDepth 20000 in
theorem ggX7_pair_X1_begin : GoodIn wsX7_pair wsX1_begin := goodIn_r _ [15, 16, 17, 18, 19, 20, 21, 22, 23, 130, 131, 132, 133, 134, 135, 136, 137, 138, 139, 140, 141, 142] rfl (by decide +kernel)
set_option maxRecDepth 20000 in
theorem gX7_pair_X1_begin : GoodIn wsX7_pair (wsV RX7 76 RX1 yX1_begin wsX1_begin) := goodIn_app (goodIn_of _ (by decide +kernel)) ggX7_pair_X1_begin
set_option maxRecDepth 20000 in
theorem ggX7_pair_X1_addArc : GoodIn wsX7_pair wsX1_addArc := goodIn_r _ [27, 22, 20, 28, 29, 30, 6, 31, 130, 131, 132, 133, 134, 135, 136, 137, 138, 139, 140, 141, 142] rfl (by decide +kernel)
set_option maxRecDepth 20000 in
theorem gX7_pair_X1_addArc : GoodIn wsX7_pair (wsV RX7 80 RX1 yX1_addArc wsX1_addArc) := goodIn_app (goodIn_of _ (by decide +kernel)) ggX7_pair_X1_addArc
set_option maxRecDepth 20000 in
theorem ggX7_pair_X1_addEnd : GoodIn wsX7_pair wsX1_addEnd := goodIn_r _ [35, 20, 23, 130, 131, 132, 133, 134, 135, 136, 137, 138, 139, 140, 141, 142] rfl (by decide +kernel)
set_option maxRecDepth 20000 in
theorem gX7_pair_X1_addEnd : GoodIn wsX7_pair (wsV RX7 84 RX1 yX1_addEnd wsX1_addEnd) := goodIn_app (goodIn_of _ (by decide +kernel)) ggX7_pair_X1_addEnd
set_option maxRecDepth 20000 in
theorem ggX7_pair_X7_keepDraft : GoodIn wsX7_pair wsX7_keepDraft := goodIn_ca (goodIn_r _ [39, 40, 41, 42, 3, 43, 44, 45, 46, 14, 47, 48, 49, 50, 51, 52, 21, 53, 54, 55, 56, 20, 57, 58, 59, 60, 61, 62, 63, 22, 28, 64, 65, 6, 66, 67, 68, 69, 70, 71, 72, 73, 74, 75, 76, 23, 77, 78, 79, 80, 81, 29, 82, 83, 84, 85, 86, 87, 88, 89, 90, 17, 18, 19, 91, 92, 93, 94, 95, 96, 97, 98, 99, 100, 101, 102, 103, 104, 105, 106, 107, 108, 30, 31, 109, 110, 111, 112, 113, 114, 115, 116, 117, 118, 119, 120, 121, 122, 123, 124, 125, 126, 127, 128, 129, 143, 144, 145, 146, 147, 148, 130, 131, 132, 133, 134, 135, 136, 137, 138, 139, 140, 141, 142] (by decide +kernel) (by decide +kernel)) (goodIn_sub (fun _ h => List.mem_cons_of_mem _ (List.mem_append_right _ h)) (by decide +kernel))
set_option maxRecDepth 20000 in
theorem gX7_pair_X7_keepDraft : GoodIn wsX7_pair (wsV RX7 88 RX7 yX7_keepDraft wsX7_keepDraft) := goodIn_app (goodIn_of _ (by decide +kernel)) ggX7_pair_X7_keepDraft
theorem dX7_pair_0 : decode cX7_pair 0 = .ok (.iload_n 1, 1) := by decide +kernel
theorem dX7_pair_1 : decode cX7_pair 1 = .ok (.invokestatic 71, 3) := by decide +kernel
theorem dX7_pair_4 : decode cX7_pair 4 = .ok (.ifCond .eq 10, 3) := by decide +kernel
theorem dX7_pair_7 : decode cX7_pair 7 = .ok (.iload_n 2, 1) := by decide +kernel
theorem dX7_pair_8 : decode cX7_pair 8 = .ok (.invokestatic 71, 3) := by decide +kernel
theorem dX7_pair_11 : decode cX7_pair 11 = .ok (.ifCond .ne 13, 3) := by decide +kernel
theorem dX7_pair_14 : decode cX7_pair 14 = .ok (.new 59, 3) := by decide +kernel
theorem dX7_pair_17 : decode cX7_pair 17 = .ok (.dup, 1) := by decide +kernel
theorem dX7_pair_18 : decode cX7_pair 18 = .ok (.ldc 61, 2) := by decide +kernel
theorem dX7_pair_20 : decode cX7_pair 20 = .ok (.invokespecial 63, 3) := by decide +kernel
theorem dX7_pair_23 : decode cX7_pair 23 = .ok (.athrow, 1) := by decide +kernel
theorem dX7_pair_24 : decode cX7_pair 24 = .ok (.iload_n 3, 1) := by decide +kernel
theorem dX7_pair_25 : decode cX7_pair 25 = .ok (.ifCond .lt 9, 3) := by decide +kernel
theorem dX7_pair_28 : decode cX7_pair 28 = .ok (.iload_n 3, 1) := by decide +kernel
theorem dX7_pair_29 : decode cX7_pair 29 = .ok (.bipush 100, 2) := by decide +kernel
theorem dX7_pair_31 : decode cX7_pair 31 = .ok (.if_icmp .le 13, 3) := by decide +kernel
theorem dX7_pair_34 : decode cX7_pair 34 = .ok (.new 59, 3) := by decide +kernel
theorem dX7_pair_37 : decode cX7_pair 37 = .ok (.dup, 1) := by decide +kernel
theorem dX7_pair_38 : decode cX7_pair 38 = .ok (.ldc 74, 2) := by decide +kernel
theorem dX7_pair_40 : decode cX7_pair 40 = .ok (.invokespecial 63, 3) := by decide +kernel
theorem dX7_pair_43 : decode cX7_pair 43 = .ok (.athrow, 1) := by decide +kernel
theorem dX7_pair_44 : decode cX7_pair 44 = .ok (.aload_n 0, 1) := by decide +kernel
theorem dX7_pair_45 : decode cX7_pair 45 = .ok (.getfield 30, 3) := by decide +kernel
theorem dX7_pair_48 : decode cX7_pair 48 = .ok (.iconst 2, 1) := by decide +kernel
theorem dX7_pair_49 : decode cX7_pair 49 = .ok (.iconst 0, 1) := by decide +kernel
theorem dX7_pair_50 : decode cX7_pair 50 = .ok (.invokevirtual 76, 3) := by decide +kernel
theorem dX7_pair_53 : decode cX7_pair 53 = .ok (.aload_n 0, 1) := by decide +kernel
theorem dX7_pair_54 : decode cX7_pair 54 = .ok (.getfield 30, 3) := by decide +kernel
theorem dX7_pair_57 : decode cX7_pair 57 = .ok (.iconst 0, 1) := by decide +kernel
theorem dX7_pair_58 : decode cX7_pair 58 = .ok (.iload_n 1, 1) := by decide +kernel
theorem dX7_pair_59 : decode cX7_pair 59 = .ok (.iload_n 2, 1) := by decide +kernel
theorem dX7_pair_60 : decode cX7_pair 60 = .ok (.iload_n 3, 1) := by decide +kernel
theorem dX7_pair_61 : decode cX7_pair 61 = .ok (.iconst 1, 1) := by decide +kernel
theorem dX7_pair_62 : decode cX7_pair 62 = .ok (.invokevirtual 80, 3) := by decide +kernel
theorem dX7_pair_65 : decode cX7_pair 65 = .ok (.aload_n 0, 1) := by decide +kernel
theorem dX7_pair_66 : decode cX7_pair 66 = .ok (.getfield 30, 3) := by decide +kernel
theorem dX7_pair_69 : decode cX7_pair 69 = .ok (.iconst 1, 1) := by decide +kernel
theorem dX7_pair_70 : decode cX7_pair 70 = .ok (.invokevirtual 84, 3) := by decide +kernel
theorem dX7_pair_73 : decode cX7_pair 73 = .ok (.aload_n 0, 1) := by decide +kernel
theorem dX7_pair_74 : decode cX7_pair 74 = .ok (.invokevirtual 88, 3) := by decide +kernel
theorem dX7_pair_77 : decode cX7_pair 77 = .ok (.ireturn, 1) := by decide +kernel
set_option maxRecDepth 20000 in
theorem ggX7_word_X1_begin : GoodIn wsX7_word wsX1_begin := goodIn_r _ [8, 9, 10, 11, 12, 13, 14, 15, 16, 124, 125, 126, 127, 128, 129, 130, 131, 132, 133, 134, 135, 136] rfl (by decide +kernel)
set_option maxRecDepth 20000 in
theorem gX7_word_X1_begin : GoodIn wsX7_word (wsV RX7 76 RX1 yX1_begin wsX1_begin) := goodIn_app (goodIn_of _ (by decide +kernel)) ggX7_word_X1_begin
set_option maxRecDepth 20000 in
theorem ggX7_word_X1_addArc : GoodIn wsX7_word wsX1_addArc := goodIn_r _ [20, 15, 13, 21, 22, 23, 24, 25, 124, 125, 126, 127, 128, 129, 130, 131, 132, 133, 134, 135, 136] rfl (by decide +kernel)
set_option maxRecDepth 20000 in
theorem gX7_word_X1_addArc : GoodIn wsX7_word (wsV RX7 80 RX1 yX1_addArc wsX1_addArc) := goodIn_app (goodIn_of _ (by decide +kernel)) ggX7_word_X1_addArc
set_option maxRecDepth 20000 in
theorem ggX7_word_X1_addEnd : GoodIn wsX7_word wsX1_addEnd := goodIn_r _ [29, 13, 16, 124, 125, 126, 127, 128, 129, 130, 131, 132, 133, 134, 135, 136] rfl (by decide +kernel)
set_option maxRecDepth 20000 in
theorem gX7_word_X1_addEnd : GoodIn wsX7_word (wsV RX7 84 RX1 yX1_addEnd wsX1_addEnd) := goodIn_app (goodIn_of _ (by decide +kernel)) ggX7_word_X1_addEnd
set_option maxRecDepth 20000 in
theorem ggX7_word_X7_keepDraft : GoodIn wsX7_word wsX7_keepDraft := goodIn_ca (goodIn_r _ [33, 34, 35, 36, 1, 37, 38, 39, 40, 7, 41, 42, 43, 44, 45, 46, 14, 47, 48, 49, 50, 13, 51, 52, 53, 54, 55, 56, 57, 15, 21, 58, 59, 24, 60, 61, 62, 63, 64, 65, 66, 67, 68, 69, 70, 16, 71, 72, 73, 74, 75, 22, 76, 77, 78, 79, 80, 81, 82, 83, 84, 10, 11, 12, 85, 86, 87, 88, 89, 90, 91, 92, 93, 94, 95, 96, 97, 98, 99, 100, 101, 102, 23, 25, 103, 104, 105, 106, 107, 108, 109, 110, 111, 112, 113, 114, 115, 116, 117, 118, 119, 120, 121, 122, 123, 137, 138, 139, 140, 141, 142, 124, 125, 126, 127, 128, 129, 130, 131, 132, 133, 134, 135, 136] (by decide +kernel) (by decide +kernel)) (goodIn_sub (fun _ h => List.mem_cons_of_mem _ (List.mem_append_right _ h)) (by decide +kernel))
set_option maxRecDepth 20000 in
theorem gX7_word_X7_keepDraft : GoodIn wsX7_word (wsV RX7 88 RX7 yX7_keepDraft wsX7_keepDraft) := goodIn_app (goodIn_of _ (by decide +kernel)) ggX7_word_X7_keepDraft
theorem dX7_word_0 : decode cX7_word 0 = .ok (.aload_n 0, 1) := by decide +kernel
theorem dX7_word_1 : decode cX7_word 1 = .ok (.getfield 30, 3) := by decide +kernel
theorem dX7_word_4 : decode cX7_word 4 = .ok (.aload_n 0, 1) := by decide +kernel
theorem dX7_word_5 : decode cX7_word 5 = .ok (.getfield 13, 3) := by decide +kernel
theorem dX7_word_8 : decode cX7_word 8 = .ok (.iconst 1, 1) := by decide +kernel
theorem dX7_word_9 : decode cX7_word 9 = .ok (.iadd, 1) := by decide +kernel
theorem dX7_word_10 : decode cX7_word 10 = .ok (.iconst 0, 1) := by decide +kernel
theorem dX7_word_11 : decode cX7_word 11 = .ok (.invokevirtual 76, 3) := by decide +kernel
theorem dX7_word_14 : decode cX7_word 14 = .ok (.iconst 0, 1) := by decide +kernel
theorem dX7_word_15 : decode cX7_word 15 = .ok (.istore_n 1, 1) := by decide +kernel
theorem dX7_word_16 : decode cX7_word 16 = .ok (.iload_n 1, 1) := by decide +kernel
theorem dX7_word_17 : decode cX7_word 17 = .ok (.aload_n 0, 1) := by decide +kernel
theorem dX7_word_18 : decode cX7_word 18 = .ok (.getfield 13, 3) := by decide +kernel
theorem dX7_word_21 : decode cX7_word 21 = .ok (.if_icmp .ge 33, 3) := by decide +kernel
theorem dX7_word_24 : decode cX7_word 24 = .ok (.aload_n 0, 1) := by decide +kernel
theorem dX7_word_25 : decode cX7_word 25 = .ok (.getfield 30, 3) := by decide +kernel
theorem dX7_word_28 : decode cX7_word 28 = .ok (.iload_n 1, 1) := by decide +kernel
theorem dX7_word_29 : decode cX7_word 29 = .ok (.aload_n 0, 1) := by decide +kernel
theorem dX7_word_30 : decode cX7_word 30 = .ok (.getfield 9, 3) := by decide +kernel
theorem dX7_word_33 : decode cX7_word 33 = .ok (.iload_n 1, 1) := by decide +kernel
theorem dX7_word_34 : decode cX7_word 34 = .ok (.iaload, 1) := by decide +kernel
theorem dX7_word_35 : decode cX7_word 35 = .ok (.aload_n 0, 1) := by decide +kernel
theorem dX7_word_36 : decode cX7_word 36 = .ok (.getfield 9, 3) := by decide +kernel
theorem dX7_word_39 : decode cX7_word 39 = .ok (.iload_n 1, 1) := by decide +kernel
theorem dX7_word_40 : decode cX7_word 40 = .ok (.iaload, 1) := by decide +kernel
theorem dX7_word_41 : decode cX7_word 41 = .ok (.iconst 0, 1) := by decide +kernel
theorem dX7_word_42 : decode cX7_word 42 = .ok (.iload_n 1, 1) := by decide +kernel
theorem dX7_word_43 : decode cX7_word 43 = .ok (.iconst 1, 1) := by decide +kernel
theorem dX7_word_44 : decode cX7_word 44 = .ok (.iadd, 1) := by decide +kernel
theorem dX7_word_45 : decode cX7_word 45 = .ok (.invokevirtual 80, 3) := by decide +kernel
theorem dX7_word_48 : decode cX7_word 48 = .ok (.iinc 1 1, 3) := by decide +kernel
theorem dX7_word_51 : decode cX7_word 51 = .ok (.goto (-35), 3) := by decide +kernel
theorem dX7_word_54 : decode cX7_word 54 = .ok (.aload_n 0, 1) := by decide +kernel
theorem dX7_word_55 : decode cX7_word 55 = .ok (.getfield 30, 3) := by decide +kernel
theorem dX7_word_58 : decode cX7_word 58 = .ok (.aload_n 0, 1) := by decide +kernel
theorem dX7_word_59 : decode cX7_word 59 = .ok (.getfield 13, 3) := by decide +kernel
theorem dX7_word_62 : decode cX7_word 62 = .ok (.invokevirtual 84, 3) := by decide +kernel
theorem dX7_word_65 : decode cX7_word 65 = .ok (.aload_n 0, 1) := by decide +kernel
theorem dX7_word_66 : decode cX7_word 66 = .ok (.invokevirtual 88, 3) := by decide +kernel
theorem dX7_word_69 : decode cX7_word 69 = .ok (.ireturn, 1) := by decide +kernel
set_option maxRecDepth 20000 in
theorem ggX7_any_X1_begin : GoodIn wsX7_any wsX1_begin := goodIn_r _ [6, 7, 8, 9, 10, 11, 12, 13, 14, 122, 123, 124, 125, 126, 127, 128, 129, 130, 131, 132, 133, 134] rfl (by decide +kernel)
set_option maxRecDepth 20000 in
theorem gX7_any_X1_begin : GoodIn wsX7_any (wsV RX7 76 RX1 yX1_begin wsX1_begin) := goodIn_app (goodIn_of _ (by decide +kernel)) ggX7_any_X1_begin
set_option maxRecDepth 20000 in
theorem ggX7_any_X1_addArc : GoodIn wsX7_any wsX1_addArc := goodIn_r _ [18, 13, 11, 19, 20, 21, 22, 23, 122, 123, 124, 125, 126, 127, 128, 129, 130, 131, 132, 133, 134] rfl (by decide +kernel)
set_option maxRecDepth 20000 in
theorem gX7_any_X1_addArc : GoodIn wsX7_any (wsV RX7 80 RX1 yX1_addArc wsX1_addArc) := goodIn_app (goodIn_of _ (by decide +kernel)) ggX7_any_X1_addArc
set_option maxRecDepth 20000 in
theorem ggX7_any_X1_addEnd : GoodIn wsX7_any wsX1_addEnd := goodIn_r _ [27, 11, 14, 122, 123, 124, 125, 126, 127, 128, 129, 130, 131, 132, 133, 134] rfl (by decide +kernel)
set_option maxRecDepth 20000 in
theorem gX7_any_X1_addEnd : GoodIn wsX7_any (wsV RX7 84 RX1 yX1_addEnd wsX1_addEnd) := goodIn_app (goodIn_of _ (by decide +kernel)) ggX7_any_X1_addEnd
set_option maxRecDepth 20000 in
theorem ggX7_any_X7_keepDraft : GoodIn wsX7_any wsX7_keepDraft := goodIn_ca (goodIn_r _ [31, 32, 33, 34, 1, 35, 36, 37, 38, 5, 39, 40, 41, 42, 43, 44, 12, 45, 46, 47, 48, 11, 49, 50, 51, 52, 53, 54, 55, 13, 19, 56, 57, 22, 58, 59, 60, 61, 62, 63, 64, 65, 66, 67, 68, 14, 69, 70, 71, 72, 73, 20, 74, 75, 76, 77, 78, 79, 80, 81, 82, 8, 9, 10, 83, 84, 85, 86, 87, 88, 89, 90, 91, 92, 93, 94, 95, 96, 97, 98, 99, 100, 21, 23, 101, 102, 103, 104, 105, 106, 107, 108, 109, 110, 111, 112, 113, 114, 115, 116, 117, 118, 119, 120, 121, 135, 136, 137, 138, 139, 140, 122, 123, 124, 125, 126, 127, 128, 129, 130, 131, 132, 133, 134] (by decide +kernel) (by decide +kernel)) (goodIn_sub (fun _ h => List.mem_cons_of_mem _ (List.mem_append_right _ h)) (by decide +kernel))
set_option maxRecDepth 20000 in
theorem gX7_any_X7_keepDraft : GoodIn wsX7_any (wsV RX7 88 RX7 yX7_keepDraft wsX7_keepDraft) := goodIn_app (goodIn_of _ (by decide +kernel)) ggX7_any_X7_keepDraft
theorem dX7_any_0 : decode cX7_any 0 = .ok (.aload_n 0, 1) := by decide +kernel
theorem dX7_any_1 : decode cX7_any 1 = .ok (.getfield 30, 3) := by decide +kernel
theorem dX7_any_4 : decode cX7_any 4 = .ok (.iconst 2, 1) := by decide +kernel
theorem dX7_any_5 : decode cX7_any 5 = .ok (.iconst 0, 1) := by decide +kernel
theorem dX7_any_6 : decode cX7_any 6 = .ok (.invokevirtual 76, 3) := by decide +kernel
theorem dX7_any_9 : decode cX7_any 9 = .ok (.iconst 0, 1) := by decide +kernel
theorem dX7_any_10 : decode cX7_any 10 = .ok (.istore_n 1, 1) := by decide +kernel
theorem dX7_any_11 : decode cX7_any 11 = .ok (.iload_n 1, 1) := by decide +kernel
theorem dX7_any_12 : decode cX7_any 12 = .ok (.bipush 8, 2) := by decide +kernel
theorem dX7_any_14 : decode cX7_any 14 = .ok (.if_icmp .ge 21, 3) := by decide +kernel
theorem dX7_any_17 : decode cX7_any 17 = .ok (.aload_n 0, 1) := by decide +kernel
theorem dX7_any_18 : decode cX7_any 18 = .ok (.getfield 30, 3) := by decide +kernel
theorem dX7_any_21 : decode cX7_any 21 = .ok (.iconst 0, 1) := by decide +kernel
theorem dX7_any_22 : decode cX7_any 22 = .ok (.iload_n 1, 1) := by decide +kernel
theorem dX7_any_23 : decode cX7_any 23 = .ok (.iload_n 1, 1) := by decide +kernel
theorem dX7_any_24 : decode cX7_any 24 = .ok (.iconst 0, 1) := by decide +kernel
theorem dX7_any_25 : decode cX7_any 25 = .ok (.iconst 1, 1) := by decide +kernel
theorem dX7_any_26 : decode cX7_any 26 = .ok (.invokevirtual 80, 3) := by decide +kernel
theorem dX7_any_29 : decode cX7_any 29 = .ok (.iinc 1 1, 3) := by decide +kernel
theorem dX7_any_32 : decode cX7_any 32 = .ok (.goto (-21), 3) := by decide +kernel
theorem dX7_any_35 : decode cX7_any 35 = .ok (.aload_n 0, 1) := by decide +kernel
theorem dX7_any_36 : decode cX7_any 36 = .ok (.getfield 30, 3) := by decide +kernel
theorem dX7_any_39 : decode cX7_any 39 = .ok (.iconst 1, 1) := by decide +kernel
theorem dX7_any_40 : decode cX7_any 40 = .ok (.invokevirtual 84, 3) := by decide +kernel
theorem dX7_any_43 : decode cX7_any 43 = .ok (.aload_n 0, 1) := by decide +kernel
theorem dX7_any_44 : decode cX7_any 44 = .ok (.invokevirtual 88, 3) := by decide +kernel
theorem dX7_any_47 : decode cX7_any 47 = .ok (.ireturn, 1) := by decide +kernel
set_option maxRecDepth 20000 in
theorem ggX7_join_X7_needMachine : GoodIn wsX7_join wsX7_needMachine := goodIn_ca (goodIn_r _ [8, 9, 10, 11, 135, 136, 137, 138, 139, 140, 141, 142] (by decide +kernel) (by decide +kernel)) (goodIn_sub (fun _ h => List.mem_cons_of_mem _ (List.mem_append_left _ (List.mem_append_right _ h))) (by decide +kernel))
set_option maxRecDepth 20000 in
theorem gX7_join_X7_needMachine : GoodIn wsX7_join (wsV RX7 92 RX7 yX7_needMachine wsX7_needMachine) := goodIn_app (goodIn_of _ (by decide +kernel)) ggX7_join_X7_needMachine
set_option maxRecDepth 20000 in
theorem ggX7_join_X1_begin : GoodIn wsX7_join wsX1_begin := goodIn_r _ [16, 17, 18, 19, 20, 21, 22, 23, 24, 146, 147, 148, 149, 150, 151, 152, 153, 154, 155, 156, 157, 158] rfl (by decide +kernel)
set_option maxRecDepth 20000 in
theorem gX7_join_X1_begin : GoodIn wsX7_join (wsV RX7 76 RX1 yX1_begin wsX1_begin) := goodIn_app (goodIn_of _ (by decide +kernel)) ggX7_join_X1_begin
set_option maxRecDepth 20000 in
theorem ggX7_join_X1_addArcsOf : GoodIn wsX7_join wsX1_addArcsOf := goodIn_r _ [28, 29, 30, 31, 32, 33, 7, 34, 35, 36, 37, 38, 39, 40, 41, 42, 43, 15, 44, 23, 21, 45, 46, 47, 48, 143, 144, 145, 159, 160, 161, 146, 147, 148, 149, 150, 151, 152, 153, 154, 155, 156, 157, 158] rfl (by decide +kernel)
set_option maxRecDepth 20000 in
theorem gX7_join_X1_addArcsOf : GoodIn wsX7_join (wsV RX7 98 RX1 yX1_addArcsOf wsX1_addArcsOf) := goodIn_app (goodIn_of _ (by decide +kernel)) ggX7_join_X1_addArcsOf
set_option maxRecDepth 20000 in
theorem ggX7_join_X1_leadFromEndsOf : GoodIn wsX7_join wsX1_leadFromEndsOf := goodIn_r _ [52, 53, 54, 55, 7, 56, 41, 42, 43, 15, 44, 23, 21, 45, 46, 47, 48, 143, 144, 145, 146, 147, 148, 149, 150, 151, 152, 153, 154, 155, 156, 157, 158] rfl (by decide +kernel)
set_option maxRecDepth 20000 in
theorem gX7_join_X1_leadFromEndsOf : GoodIn wsX7_join (wsV RX7 102 RX1 yX1_leadFromEndsOf wsX1_leadFromEndsOf) := goodIn_app (goodIn_of _ (by decide +kernel)) ggX7_join_X1_leadFromEndsOf
set_option maxRecDepth 20000 in
theorem ggX7_join_X1_addEndsOf : GoodIn wsX7_join wsX1_addEndsOf := goodIn_r _ [60, 53, 54, 55, 7, 56, 61, 62, 63, 15, 64, 21, 24, 143, 144, 145, 146, 147, 148, 149, 150, 151, 152, 153, 154, 155, 156, 157, 158] rfl (by decide +kernel)
set_option maxRecDepth 20000 in
theorem gX7_join_X1_addEndsOf : GoodIn wsX7_join (wsV RX7 106 RX1 yX1_addEndsOf wsX1_addEndsOf) := goodIn_app (goodIn_of _ (by decide +kernel)) ggX7_join_X1_addEndsOf
set_option maxRecDepth 20000 in
theorem ggX7_join_X7_keepDraft : GoodIn wsX7_join wsX7_keepDraft := goodIn_ca (goodIn_r _ [68, 69, 70, 11, 2, 1, 71, 72, 73, 15, 74, 53, 54, 29, 30, 75, 22, 76, 77, 78, 79, 21, 80, 81, 82, 83, 84, 85, 86, 23, 45, 87, 33, 7, 34, 39, 40, 88, 89, 90, 91, 92, 93, 94, 95, 24, 96, 97, 98, 99, 100, 46, 101, 102, 103, 104, 105, 106, 107, 108, 109, 18, 19, 20, 110, 111, 112, 113, 114, 115, 116, 117, 118, 119, 120, 121, 122, 31, 123, 124, 125, 126, 47, 48, 127, 128, 129, 130, 131, 132, 133, 134, 32, 35, 36, 37, 38, 135, 136, 137, 138, 139, 140, 141, 142, 143, 144, 145, 159, 160, 161, 146, 147, 148, 149, 150, 151, 152, 153, 154, 155, 156, 157, 158] (by decide +kernel) (by decide +kernel)) (goodIn_sub (fun _ h => List.mem_cons_of_mem _ (List.mem_append_right _ h)) (by decide +kernel))
set_option maxRecDepth 20000 in
theorem gX7_join_X7_keepDraft : GoodIn wsX7_join (wsV RX7 88 RX7 yX7_keepDraft wsX7_keepDraft) := goodIn_app (goodIn_of _ (by decide +kernel)) ggX7_join_X7_keepDraft
theorem dX7_join_0 : decode cX7_join 0 = .ok (.aload_n 0, 1) := by decide +kernel
theorem dX7_join_1 : decode cX7_join 1 = .ok (.iload_n 1, 1) := by decide +kernel
theorem dX7_join_2 : decode cX7_join 2 = .ok (.invokevirtual 92, 3) := by decide +kernel
theorem dX7_join_5 : decode cX7_join 5 = .ok (.aload_n 0, 1) := by decide +kernel
theorem dX7_join_6 : decode cX7_join 6 = .ok (.iload_n 2, 1) := by decide +kernel
theorem dX7_join_7 : decode cX7_join 7 = .ok (.invokevirtual 92, 3) := by decide +kernel
theorem dX7_join_10 : decode cX7_join 10 = .ok (.aload_n 0, 1) := by decide +kernel
theorem dX7_join_11 : decode cX7_join 11 = .ok (.getfield 19, 3) := by decide +kernel
theorem dX7_join_14 : decode cX7_join 14 = .ok (.iload_n 1, 1) := by decide +kernel
theorem dX7_join_15 : decode cX7_join 15 = .ok (.aaload, 1) := by decide +kernel
theorem dX7_join_16 : decode cX7_join 16 = .ok (.astore_n 3, 1) := by decide +kernel
theorem dX7_join_17 : decode cX7_join 17 = .ok (.aload_n 0, 1) := by decide +kernel
theorem dX7_join_18 : decode cX7_join 18 = .ok (.getfield 19, 3) := by decide +kernel
theorem dX7_join_21 : decode cX7_join 21 = .ok (.iload_n 2, 1) := by decide +kernel
theorem dX7_join_22 : decode cX7_join 22 = .ok (.aaload, 1) := by decide +kernel
theorem dX7_join_23 : decode cX7_join 23 = .ok (.astore 4, 2) := by decide +kernel
theorem dX7_join_25 : decode cX7_join 25 = .ok (.aload_n 0, 1) := by decide +kernel
theorem dX7_join_26 : decode cX7_join 26 = .ok (.getfield 30, 3) := by decide +kernel
theorem dX7_join_29 : decode cX7_join 29 = .ok (.aload_n 3, 1) := by decide +kernel
theorem dX7_join_30 : decode cX7_join 30 = .ok (.getfield 95, 3) := by decide +kernel
theorem dX7_join_33 : decode cX7_join 33 = .ok (.aload 4, 2) := by decide +kernel
theorem dX7_join_35 : decode cX7_join 35 = .ok (.getfield 95, 3) := by decide +kernel
theorem dX7_join_38 : decode cX7_join 38 = .ok (.iadd, 1) := by decide +kernel
theorem dX7_join_39 : decode cX7_join 39 = .ok (.iconst 0, 1) := by decide +kernel
theorem dX7_join_40 : decode cX7_join 40 = .ok (.invokevirtual 76, 3) := by decide +kernel
theorem dX7_join_43 : decode cX7_join 43 = .ok (.aload_n 0, 1) := by decide +kernel
theorem dX7_join_44 : decode cX7_join 44 = .ok (.getfield 30, 3) := by decide +kernel
theorem dX7_join_47 : decode cX7_join 47 = .ok (.aload_n 3, 1) := by decide +kernel
theorem dX7_join_48 : decode cX7_join 48 = .ok (.iconst 0, 1) := by decide +kernel
theorem dX7_join_49 : decode cX7_join 49 = .ok (.invokevirtual 98, 3) := by decide +kernel
theorem dX7_join_52 : decode cX7_join 52 = .ok (.aload_n 0, 1) := by decide +kernel
theorem dX7_join_53 : decode cX7_join 53 = .ok (.getfield 30, 3) := by decide +kernel
theorem dX7_join_56 : decode cX7_join 56 = .ok (.aload 4, 2) := by decide +kernel
theorem dX7_join_58 : decode cX7_join 58 = .ok (.aload_n 3, 1) := by decide +kernel
theorem dX7_join_59 : decode cX7_join 59 = .ok (.getfield 95, 3) := by decide +kernel
theorem dX7_join_62 : decode cX7_join 62 = .ok (.invokevirtual 98, 3) := by decide +kernel
theorem dX7_join_65 : decode cX7_join 65 = .ok (.aload_n 0, 1) := by decide +kernel
theorem dX7_join_66 : decode cX7_join 66 = .ok (.getfield 30, 3) := by decide +kernel
theorem dX7_join_69 : decode cX7_join 69 = .ok (.aload_n 3, 1) := by decide +kernel
theorem dX7_join_70 : decode cX7_join 70 = .ok (.iconst 0, 1) := by decide +kernel
theorem dX7_join_71 : decode cX7_join 71 = .ok (.aload_n 3, 1) := by decide +kernel
theorem dX7_join_72 : decode cX7_join 72 = .ok (.getfield 95, 3) := by decide +kernel
theorem dX7_join_75 : decode cX7_join 75 = .ok (.invokevirtual 102, 3) := by decide +kernel
theorem dX7_join_78 : decode cX7_join 78 = .ok (.aload_n 0, 1) := by decide +kernel
theorem dX7_join_79 : decode cX7_join 79 = .ok (.getfield 30, 3) := by decide +kernel
theorem dX7_join_82 : decode cX7_join 82 = .ok (.aload 4, 2) := by decide +kernel
theorem dX7_join_84 : decode cX7_join 84 = .ok (.aload_n 3, 1) := by decide +kernel
theorem dX7_join_85 : decode cX7_join 85 = .ok (.getfield 95, 3) := by decide +kernel
theorem dX7_join_88 : decode cX7_join 88 = .ok (.invokevirtual 106, 3) := by decide +kernel
theorem dX7_join_91 : decode cX7_join 91 = .ok (.aload_n 0, 1) := by decide +kernel
theorem dX7_join_92 : decode cX7_join 92 = .ok (.invokevirtual 88, 3) := by decide +kernel
theorem dX7_join_95 : decode cX7_join 95 = .ok (.ireturn, 1) := by decide +kernel
set_option maxRecDepth 20000 in
theorem ggX7_unite_X7_needMachine : GoodIn wsX7_unite wsX7_needMachine := goodIn_ca (goodIn_r _ [8, 9, 10, 11, 132, 133, 134, 135, 136, 137, 138, 139] (by decide +kernel) (by decide +kernel)) (goodIn_sub (fun _ h => List.mem_cons_of_mem _ (List.mem_append_left _ (List.mem_append_right _ h))) (by decide +kernel))
set_option maxRecDepth 20000 in
theorem gX7_unite_X7_needMachine : GoodIn wsX7_unite (wsV RX7 92 RX7 yX7_needMachine wsX7_needMachine) := goodIn_app (goodIn_of _ (by decide +kernel)) ggX7_unite_X7_needMachine
set_option maxRecDepth 20000 in
theorem ggX7_unite_X1_begin : GoodIn wsX7_unite wsX1_begin := goodIn_r _ [16, 17, 18, 19, 20, 21, 22, 23, 24, 143, 144, 145, 146, 147, 148, 149, 150, 151, 152, 153, 154, 155] rfl (by decide +kernel)
set_option maxRecDepth 20000 in
theorem gX7_unite_X1_begin : GoodIn wsX7_unite (wsV RX7 76 RX1 yX1_begin wsX1_begin) := goodIn_app (goodIn_of _ (by decide +kernel)) ggX7_unite_X1_begin
set_option maxRecDepth 20000 in
theorem ggX7_unite_X1_addArcsOf : GoodIn wsX7_unite wsX1_addArcsOf := goodIn_r _ [28, 29, 30, 31, 32, 33, 7, 34, 35, 36, 37, 38, 39, 40, 41, 42, 43, 15, 44, 23, 21, 45, 46, 47, 48, 140, 141, 142, 156, 157, 158, 143, 144, 145, 146, 147, 148, 149, 150, 151, 152, 153, 154, 155] rfl (by decide +kernel)
set_option maxRecDepth 20000 in
theorem gX7_unite_X1_addArcsOf : GoodIn wsX7_unite (wsV RX7 98 RX1 yX1_addArcsOf wsX1_addArcsOf) := goodIn_app (goodIn_of _ (by decide +kernel)) ggX7_unite_X1_addArcsOf
set_option maxRecDepth 20000 in
theorem ggX7_unite_X1_addEndsOf : GoodIn wsX7_unite wsX1_addEndsOf := goodIn_r _ [52, 53, 54, 55, 7, 56, 57, 58, 59, 15, 60, 21, 24, 140, 141, 142, 143, 144, 145, 146, 147, 148, 149, 150, 151, 152, 153, 154, 155] rfl (by decide +kernel)
set_option maxRecDepth 20000 in
theorem gX7_unite_X1_addEndsOf : GoodIn wsX7_unite (wsV RX7 106 RX1 yX1_addEndsOf wsX1_addEndsOf) := goodIn_app (goodIn_of _ (by decide +kernel)) ggX7_unite_X1_addEndsOf
set_option maxRecDepth 20000 in
theorem ggX7_unite_X1_addArc : GoodIn wsX7_unite wsX1_addArc := goodIn_r _ [44, 23, 21, 45, 46, 47, 7, 48, 143, 144, 145, 146, 147, 148, 149, 150, 151, 152, 153, 154, 155] rfl (by decide +kernel)
set_option maxRecDepth 20000 in
theorem gX7_unite_X1_addArc : GoodIn wsX7_unite (wsV RX7 80 RX1 yX1_addArc wsX1_addArc) := goodIn_app (goodIn_of _ (by decide +kernel)) ggX7_unite_X1_addArc
set_option maxRecDepth 20000 in
theorem ggX7_unite_X7_keepDraft : GoodIn wsX7_unite wsX7_keepDraft := goodIn_ca (goodIn_r _ [65, 66, 67, 11, 3, 1, 68, 69, 70, 15, 71, 53, 54, 29, 30, 72, 22, 73, 74, 75, 76, 21, 77, 78, 79, 80, 81, 82, 83, 23, 45, 84, 33, 7, 34, 39, 40, 85, 86, 87, 88, 89, 90, 91, 92, 24, 93, 94, 95, 96, 97, 46, 98, 99, 100, 101, 102, 103, 104, 105, 106, 18, 19, 20, 107, 108, 109, 110, 111, 112, 113, 114, 115, 116, 117, 118, 119, 31, 120, 121, 122, 123, 47, 48, 124, 125, 126, 127, 128, 129, 130, 131, 32, 35, 36, 37, 38, 132, 133, 134, 135, 136, 137, 138, 139, 140, 141, 142, 156, 157, 158, 143, 144, 145, 146, 147, 148, 149, 150, 151, 152, 153, 154, 155] (by decide +kernel) (by decide +kernel)) (goodIn_sub (fun _ h => List.mem_cons_of_mem _ (List.mem_append_right _ h)) (by decide +kernel))
set_option maxRecDepth 20000 in
theorem gX7_unite_X7_keepDraft : GoodIn wsX7_unite (wsV RX7 88 RX7 yX7_keepDraft wsX7_keepDraft) := goodIn_app (goodIn_of _ (by decide +kernel)) ggX7_unite_X7_keepDraft
theorem dX7_unite_0 : decode cX7_unite 0 = .ok (.aload_n 0, 1) := by decide +kernel
theorem dX7_unite_1 : decode cX7_unite 1 = .ok (.iload_n 1, 1) := by decide +kernel
theorem dX7_unite_2 : decode cX7_unite 2 = .ok (.invokevirtual 92, 3) := by decide +kernel
theorem dX7_unite_5 : decode cX7_unite 5 = .ok (.aload_n 0, 1) := by decide +kernel
theorem dX7_unite_6 : decode cX7_unite 6 = .ok (.iload_n 2, 1) := by decide +kernel
theorem dX7_unite_7 : decode cX7_unite 7 = .ok (.invokevirtual 92, 3) := by decide +kernel
theorem dX7_unite_10 : decode cX7_unite 10 = .ok (.aload_n 0, 1) := by decide +kernel
theorem dX7_unite_11 : decode cX7_unite 11 = .ok (.getfield 19, 3) := by decide +kernel
theorem dX7_unite_14 : decode cX7_unite 14 = .ok (.iload_n 1, 1) := by decide +kernel
theorem dX7_unite_15 : decode cX7_unite 15 = .ok (.aaload, 1) := by decide +kernel
theorem dX7_unite_16 : decode cX7_unite 16 = .ok (.astore_n 3, 1) := by decide +kernel
theorem dX7_unite_17 : decode cX7_unite 17 = .ok (.aload_n 0, 1) := by decide +kernel
theorem dX7_unite_18 : decode cX7_unite 18 = .ok (.getfield 19, 3) := by decide +kernel
theorem dX7_unite_21 : decode cX7_unite 21 = .ok (.iload_n 2, 1) := by decide +kernel
theorem dX7_unite_22 : decode cX7_unite 22 = .ok (.aaload, 1) := by decide +kernel
theorem dX7_unite_23 : decode cX7_unite 23 = .ok (.astore 4, 2) := by decide +kernel
theorem dX7_unite_25 : decode cX7_unite 25 = .ok (.aload_n 3, 1) := by decide +kernel
theorem dX7_unite_26 : decode cX7_unite 26 = .ok (.getfield 95, 3) := by decide +kernel
theorem dX7_unite_29 : decode cX7_unite 29 = .ok (.aload 4, 2) := by decide +kernel
theorem dX7_unite_31 : decode cX7_unite 31 = .ok (.getfield 95, 3) := by decide +kernel
theorem dX7_unite_34 : decode cX7_unite 34 = .ok (.iadd, 1) := by decide +kernel
theorem dX7_unite_35 : decode cX7_unite 35 = .ok (.istore 5, 2) := by decide +kernel
theorem dX7_unite_37 : decode cX7_unite 37 = .ok (.aload_n 0, 1) := by decide +kernel
theorem dX7_unite_38 : decode cX7_unite 38 = .ok (.getfield 30, 3) := by decide +kernel
theorem dX7_unite_41 : decode cX7_unite 41 = .ok (.iload 5, 2) := by decide +kernel
theorem dX7_unite_43 : decode cX7_unite 43 = .ok (.iconst 1, 1) := by decide +kernel
theorem dX7_unite_44 : decode cX7_unite 44 = .ok (.iadd, 1) := by decide +kernel
theorem dX7_unite_45 : decode cX7_unite 45 = .ok (.iload 5, 2) := by decide +kernel
theorem dX7_unite_47 : decode cX7_unite 47 = .ok (.invokevirtual 76, 3) := by decide +kernel
theorem dX7_unite_50 : decode cX7_unite 50 = .ok (.aload_n 0, 1) := by decide +kernel
theorem dX7_unite_51 : decode cX7_unite 51 = .ok (.getfield 30, 3) := by decide +kernel
theorem dX7_unite_54 : decode cX7_unite 54 = .ok (.aload_n 3, 1) := by decide +kernel
theorem dX7_unite_55 : decode cX7_unite 55 = .ok (.iconst 0, 1) := by decide +kernel
theorem dX7_unite_56 : decode cX7_unite 56 = .ok (.invokevirtual 98, 3) := by decide +kernel
theorem dX7_unite_59 : decode cX7_unite 59 = .ok (.aload_n 0, 1) := by decide +kernel
theorem dX7_unite_60 : decode cX7_unite 60 = .ok (.getfield 30, 3) := by decide +kernel
theorem dX7_unite_63 : decode cX7_unite 63 = .ok (.aload 4, 2) := by decide +kernel
theorem dX7_unite_65 : decode cX7_unite 65 = .ok (.aload_n 3, 1) := by decide +kernel
theorem dX7_unite_66 : decode cX7_unite 66 = .ok (.getfield 95, 3) := by decide +kernel
theorem dX7_unite_69 : decode cX7_unite 69 = .ok (.invokevirtual 98, 3) := by decide +kernel
theorem dX7_unite_72 : decode cX7_unite 72 = .ok (.aload_n 0, 1) := by decide +kernel
theorem dX7_unite_73 : decode cX7_unite 73 = .ok (.getfield 30, 3) := by decide +kernel
theorem dX7_unite_76 : decode cX7_unite 76 = .ok (.aload_n 3, 1) := by decide +kernel
theorem dX7_unite_77 : decode cX7_unite 77 = .ok (.iconst 0, 1) := by decide +kernel
theorem dX7_unite_78 : decode cX7_unite 78 = .ok (.invokevirtual 106, 3) := by decide +kernel
theorem dX7_unite_81 : decode cX7_unite 81 = .ok (.aload_n 0, 1) := by decide +kernel
theorem dX7_unite_82 : decode cX7_unite 82 = .ok (.getfield 30, 3) := by decide +kernel
theorem dX7_unite_85 : decode cX7_unite 85 = .ok (.aload 4, 2) := by decide +kernel
theorem dX7_unite_87 : decode cX7_unite 87 = .ok (.aload_n 3, 1) := by decide +kernel
theorem dX7_unite_88 : decode cX7_unite 88 = .ok (.getfield 95, 3) := by decide +kernel
theorem dX7_unite_91 : decode cX7_unite 91 = .ok (.invokevirtual 106, 3) := by decide +kernel
theorem dX7_unite_94 : decode cX7_unite 94 = .ok (.aload_n 0, 1) := by decide +kernel
theorem dX7_unite_95 : decode cX7_unite 95 = .ok (.getfield 30, 3) := by decide +kernel
theorem dX7_unite_98 : decode cX7_unite 98 = .ok (.iload 5, 2) := by decide +kernel
theorem dX7_unite_100 : decode cX7_unite 100 = .ok (.bipush 8, 2) := by decide +kernel
theorem dX7_unite_102 : decode cX7_unite 102 = .ok (.bipush 8, 2) := by decide +kernel
theorem dX7_unite_104 : decode cX7_unite 104 = .ok (.iconst 0, 1) := by decide +kernel
theorem dX7_unite_105 : decode cX7_unite 105 = .ok (.iconst 0, 1) := by decide +kernel
theorem dX7_unite_106 : decode cX7_unite 106 = .ok (.invokevirtual 80, 3) := by decide +kernel
theorem dX7_unite_109 : decode cX7_unite 109 = .ok (.aload_n 0, 1) := by decide +kernel
theorem dX7_unite_110 : decode cX7_unite 110 = .ok (.getfield 30, 3) := by decide +kernel
theorem dX7_unite_113 : decode cX7_unite 113 = .ok (.iload 5, 2) := by decide +kernel
theorem dX7_unite_115 : decode cX7_unite 115 = .ok (.bipush 8, 2) := by decide +kernel
theorem dX7_unite_117 : decode cX7_unite 117 = .ok (.bipush 8, 2) := by decide +kernel
theorem dX7_unite_119 : decode cX7_unite 119 = .ok (.iconst 0, 1) := by decide +kernel
theorem dX7_unite_120 : decode cX7_unite 120 = .ok (.aload_n 3, 1) := by decide +kernel
theorem dX7_unite_121 : decode cX7_unite 121 = .ok (.getfield 95, 3) := by decide +kernel
theorem dX7_unite_124 : decode cX7_unite 124 = .ok (.invokevirtual 80, 3) := by decide +kernel
theorem dX7_unite_127 : decode cX7_unite 127 = .ok (.aload_n 0, 1) := by decide +kernel
theorem dX7_unite_128 : decode cX7_unite 128 = .ok (.invokevirtual 88, 3) := by decide +kernel
theorem dX7_unite_131 : decode cX7_unite 131 = .ok (.ireturn, 1) := by decide +kernel
set_option maxRecDepth 20000 in
theorem ggX7_repeat_X7_needMachine : GoodIn wsX7_repeat wsX7_needMachine := goodIn_ca (goodIn_r _ [10, 11, 12, 13, 142, 143, 144, 145, 146, 147, 148, 149] (by decide +kernel) (by decide +kernel)) (goodIn_sub (fun _ h => List.mem_cons_of_mem _ (List.mem_append_right _ h)) (by decide +kernel))
set_option maxRecDepth 20000 in
theorem gX7_repeat_X7_needMachine : GoodIn wsX7_repeat (wsV RX7 92 RX7 yX7_needMachine wsX7_needMachine) := goodIn_app (goodIn_of _ (by decide +kernel)) ggX7_repeat_X7_needMachine
set_option maxRecDepth 20000 in
theorem ggX7_repeat_X3_relatesEmpty : GoodIn wsX7_repeat wsX3_relatesEmpty := goodIn_r _ [18, 19, 20, 21, 22, 23, 24, 9, 25, 26, 27, 28, 29, 30, 31, 32, 33, 150, 151, 152, 153, 154, 155] rfl (by decide +kernel)
set_option maxRecDepth 20000 in
theorem gX7_repeat_X3_relatesEmpty : GoodIn wsX7_repeat (wsV RX7 109 RX3 yX3_relatesEmpty wsX3_relatesEmpty) := goodIn_app (goodIn_of _ (by decide +kernel)) ggX7_repeat_X3_relatesEmpty
set_option maxRecDepth 20000 in
theorem ggX7_repeat_X1_begin : GoodIn wsX7_repeat wsX1_begin := goodIn_r _ [38, 39, 40, 41, 42, 43, 44, 45, 46, 156, 157, 158, 159, 160, 161, 162, 163, 164, 165, 166, 167, 168] rfl (by decide +kernel)
set_option maxRecDepth 20000 in
theorem gX7_repeat_X1_begin : GoodIn wsX7_repeat (wsV RX7 76 RX1 yX1_begin wsX1_begin) := goodIn_app (goodIn_of _ (by decide +kernel)) ggX7_repeat_X1_begin
set_option maxRecDepth 20000 in
theorem ggX7_repeat_X1_addArcsOf : GoodIn wsX7_repeat wsX1_addArcsOf := goodIn_r _ [50, 51, 52, 53, 54, 28, 9, 29, 24, 25, 26, 27, 32, 33, 55, 56, 57, 37, 58, 45, 43, 59, 60, 61, 62, 150, 151, 152, 153, 154, 155, 156, 157, 158, 159, 160, 161, 162, 163, 164, 165, 166, 167, 168] rfl (by decide +kernel)
set_option maxRecDepth 20000 in
theorem gX7_repeat_X1_addArcsOf : GoodIn wsX7_repeat (wsV RX7 98 RX1 yX1_addArcsOf wsX1_addArcsOf) := goodIn_app (goodIn_of _ (by decide +kernel)) ggX7_repeat_X1_addArcsOf
set_option maxRecDepth 20000 in
theorem ggX7_repeat_X1_addArc : GoodIn wsX7_repeat wsX1_addArc := goodIn_r _ [58, 45, 43, 59, 60, 61, 9, 62, 156, 157, 158, 159, 160, 161, 162, 163, 164, 165, 166, 167, 168] rfl (by decide +kernel)
set_option maxRecDepth 20000 in
theorem gX7_repeat_X1_addArc : GoodIn wsX7_repeat (wsV RX7 80 RX1 yX1_addArc wsX1_addArc) := goodIn_app (goodIn_of _ (by decide +kernel)) ggX7_repeat_X1_addArc
set_option maxRecDepth 20000 in
theorem ggX7_repeat_X1_leadFromEndsOf : GoodIn wsX7_repeat wsX1_leadFromEndsOf := goodIn_r _ [67, 68, 69, 30, 9, 31, 55, 56, 57, 37, 58, 45, 43, 59, 60, 61, 62, 150, 151, 152, 156, 157, 158, 159, 160, 161, 162, 163, 164, 165, 166, 167, 168] rfl (by decide +kernel)
set_option maxRecDepth 20000 in
theorem gX7_repeat_X1_leadFromEndsOf : GoodIn wsX7_repeat (wsV RX7 102 RX1 yX1_leadFromEndsOf wsX1_leadFromEndsOf) := goodIn_app (goodIn_of _ (by decide +kernel)) ggX7_repeat_X1_leadFromEndsOf
set_option maxRecDepth 20000 in
theorem ggX7_repeat_X1_addEnd : GoodIn wsX7_repeat wsX1_addEnd := goodIn_r _ [73, 43, 46, 156, 157, 158, 159, 160, 161, 162, 163, 164, 165, 166, 167, 168] rfl (by decide +kernel)
set_option maxRecDepth 20000 in
theorem gX7_repeat_X1_addEnd : GoodIn wsX7_repeat (wsV RX7 84 RX1 yX1_addEnd wsX1_addEnd) := goodIn_app (goodIn_of _ (by decide +kernel)) ggX7_repeat_X1_addEnd
set_option maxRecDepth 20000 in
theorem ggX7_repeat_X7_keepDraft : GoodIn wsX7_repeat wsX7_keepDraft := goodIn_ca (goodIn_r _ [77, 1, 2, 13, 5, 3, 78, 79, 80, 37, 81, 68, 69, 51, 52, 82, 44, 83, 84, 85, 86, 43, 87, 88, 89, 90, 91, 92, 93, 45, 59, 94, 28, 9, 29, 32, 33, 95, 96, 97, 98, 99, 100, 101, 102, 46, 103, 104, 105, 106, 107, 60, 108, 109, 110, 111, 112, 113, 114, 115, 116, 40, 41, 42, 117, 118, 119, 120, 121, 122, 123, 124, 125, 126, 127, 128, 129, 53, 130, 131, 132, 133, 61, 62, 134, 135, 136, 137, 138, 139, 140, 141, 54, 24, 25, 26, 27, 142, 143, 144, 145, 146, 147, 148, 149, 150, 151, 152, 153, 154, 155, 156, 157, 158, 159, 160, 161, 162, 163, 164, 165, 166, 167, 168] (by decide +kernel) (by decide +kernel)) (goodIn_sub (fun _ h => List.mem_cons_of_mem _ (List.mem_append_left _ (List.mem_append_right _ h))) (by decide +kernel))
set_option maxRecDepth 20000 in
theorem gX7_repeat_X7_keepDraft : GoodIn wsX7_repeat (wsV RX7 88 RX7 yX7_keepDraft wsX7_keepDraft) := goodIn_app (goodIn_of _ (by decide +kernel)) ggX7_repeat_X7_keepDraft
theorem dX7_repeat_0 : decode cX7_repeat 0 = .ok (.aload_n 0, 1) := by decide +kernel
theorem dX7_repeat_1 : decode cX7_repeat 1 = .ok (.iload_n 1, 1) := by decide +kernel
theorem dX7_repeat_2 : decode cX7_repeat 2 = .ok (.invokevirtual 92, 3) := by decide +kernel
theorem dX7_repeat_5 : decode cX7_repeat 5 = .ok (.aload_n 0, 1) := by decide +kernel
theorem dX7_repeat_6 : decode cX7_repeat 6 = .ok (.getfield 19, 3) := by decide +kernel
theorem dX7_repeat_9 : decode cX7_repeat 9 = .ok (.iload_n 1, 1) := by decide +kernel
theorem dX7_repeat_10 : decode cX7_repeat 10 = .ok (.aaload, 1) := by decide +kernel
theorem dX7_repeat_11 : decode cX7_repeat 11 = .ok (.astore_n 2, 1) := by decide +kernel
theorem dX7_repeat_12 : decode cX7_repeat 12 = .ok (.aload_n 2, 1) := by decide +kernel
theorem dX7_repeat_13 : decode cX7_repeat 13 = .ok (.iconst 1, 1) := by decide +kernel
theorem dX7_repeat_14 : decode cX7_repeat 14 = .ok (.invokevirtual 109, 3) := by decide +kernel
theorem dX7_repeat_17 : decode cX7_repeat 17 = .ok (.ifCond .ne 11, 3) := by decide +kernel
theorem dX7_repeat_20 : decode cX7_repeat 20 = .ok (.aload_n 2, 1) := by decide +kernel
theorem dX7_repeat_21 : decode cX7_repeat 21 = .ok (.iconst 0, 1) := by decide +kernel
theorem dX7_repeat_22 : decode cX7_repeat 22 = .ok (.invokevirtual 109, 3) := by decide +kernel
theorem dX7_repeat_25 : decode cX7_repeat 25 = .ok (.ifCond .eq 13, 3) := by decide +kernel
theorem dX7_repeat_28 : decode cX7_repeat 28 = .ok (.new 66, 3) := by decide +kernel
theorem dX7_repeat_31 : decode cX7_repeat 31 = .ok (.dup, 1) := by decide +kernel
theorem dX7_repeat_32 : decode cX7_repeat 32 = .ok (.ldc 113, 2) := by decide +kernel
theorem dX7_repeat_34 : decode cX7_repeat 34 = .ok (.invokespecial 70, 3) := by decide +kernel
theorem dX7_repeat_37 : decode cX7_repeat 37 = .ok (.athrow, 1) := by decide +kernel
theorem dX7_repeat_38 : decode cX7_repeat 38 = .ok (.aload_n 2, 1) := by decide +kernel
theorem dX7_repeat_39 : decode cX7_repeat 39 = .ok (.getfield 95, 3) := by decide +kernel
theorem dX7_repeat_42 : decode cX7_repeat 42 = .ok (.istore_n 3, 1) := by decide +kernel
theorem dX7_repeat_43 : decode cX7_repeat 43 = .ok (.aload_n 0, 1) := by decide +kernel
theorem dX7_repeat_44 : decode cX7_repeat 44 = .ok (.getfield 30, 3) := by decide +kernel
theorem dX7_repeat_47 : decode cX7_repeat 47 = .ok (.iload_n 3, 1) := by decide +kernel
theorem dX7_repeat_48 : decode cX7_repeat 48 = .ok (.iconst 1, 1) := by decide +kernel
theorem dX7_repeat_49 : decode cX7_repeat 49 = .ok (.iadd, 1) := by decide +kernel
theorem dX7_repeat_50 : decode cX7_repeat 50 = .ok (.iload_n 3, 1) := by decide +kernel
theorem dX7_repeat_51 : decode cX7_repeat 51 = .ok (.invokevirtual 76, 3) := by decide +kernel
theorem dX7_repeat_54 : decode cX7_repeat 54 = .ok (.aload_n 0, 1) := by decide +kernel
theorem dX7_repeat_55 : decode cX7_repeat 55 = .ok (.getfield 30, 3) := by decide +kernel
theorem dX7_repeat_58 : decode cX7_repeat 58 = .ok (.aload_n 2, 1) := by decide +kernel
theorem dX7_repeat_59 : decode cX7_repeat 59 = .ok (.iconst 0, 1) := by decide +kernel
theorem dX7_repeat_60 : decode cX7_repeat 60 = .ok (.invokevirtual 98, 3) := by decide +kernel
theorem dX7_repeat_63 : decode cX7_repeat 63 = .ok (.aload_n 0, 1) := by decide +kernel
theorem dX7_repeat_64 : decode cX7_repeat 64 = .ok (.getfield 30, 3) := by decide +kernel
theorem dX7_repeat_67 : decode cX7_repeat 67 = .ok (.iload_n 3, 1) := by decide +kernel
theorem dX7_repeat_68 : decode cX7_repeat 68 = .ok (.bipush 8, 2) := by decide +kernel
theorem dX7_repeat_70 : decode cX7_repeat 70 = .ok (.bipush 8, 2) := by decide +kernel
theorem dX7_repeat_72 : decode cX7_repeat 72 = .ok (.iconst 0, 1) := by decide +kernel
theorem dX7_repeat_73 : decode cX7_repeat 73 = .ok (.iconst 0, 1) := by decide +kernel
theorem dX7_repeat_74 : decode cX7_repeat 74 = .ok (.invokevirtual 80, 3) := by decide +kernel
theorem dX7_repeat_77 : decode cX7_repeat 77 = .ok (.aload_n 0, 1) := by decide +kernel
theorem dX7_repeat_78 : decode cX7_repeat 78 = .ok (.getfield 30, 3) := by decide +kernel
theorem dX7_repeat_81 : decode cX7_repeat 81 = .ok (.aload_n 2, 1) := by decide +kernel
theorem dX7_repeat_82 : decode cX7_repeat 82 = .ok (.iconst 0, 1) := by decide +kernel
theorem dX7_repeat_83 : decode cX7_repeat 83 = .ok (.iload_n 3, 1) := by decide +kernel
theorem dX7_repeat_84 : decode cX7_repeat 84 = .ok (.invokevirtual 102, 3) := by decide +kernel
theorem dX7_repeat_87 : decode cX7_repeat 87 = .ok (.aload_n 0, 1) := by decide +kernel
theorem dX7_repeat_88 : decode cX7_repeat 88 = .ok (.getfield 30, 3) := by decide +kernel
theorem dX7_repeat_91 : decode cX7_repeat 91 = .ok (.iload_n 3, 1) := by decide +kernel
theorem dX7_repeat_92 : decode cX7_repeat 92 = .ok (.invokevirtual 84, 3) := by decide +kernel
theorem dX7_repeat_95 : decode cX7_repeat 95 = .ok (.aload_n 0, 1) := by decide +kernel
theorem dX7_repeat_96 : decode cX7_repeat 96 = .ok (.invokevirtual 88, 3) := by decide +kernel
theorem dX7_repeat_99 : decode cX7_repeat 99 = .ok (.ireturn, 1) := by decide +kernel
set_option maxRecDepth 20000 in
theorem ggX7_turn_X7_needMachine : GoodIn wsX7_turn wsX7_needMachine := goodIn_ca (goodIn_r _ [12, 13, 14, 15, 135, 136, 137, 138, 139, 140, 141, 142] (by decide +kernel) (by decide +kernel)) (goodIn_sub (fun _ h => List.mem_cons_of_mem _ (List.mem_append_left _ (List.mem_append_right _ h))) (by decide +kernel))
set_option maxRecDepth 20000 in
theorem gX7_turn_X7_needMachine : GoodIn wsX7_turn (wsV RX7 92 RX7 yX7_needMachine wsX7_needMachine) := goodIn_app (goodIn_of _ (by decide +kernel)) ggX7_turn_X7_needMachine
set_option maxRecDepth 20000 in
theorem ggX7_turn_X1_begin : GoodIn wsX7_turn wsX1_begin := goodIn_r _ [20, 21, 22, 23, 24, 25, 26, 27, 28, 149, 150, 151, 152, 153, 154, 155, 156, 157, 158, 159, 160, 161] rfl (by decide +kernel)
set_option maxRecDepth 20000 in
theorem gX7_turn_X1_begin : GoodIn wsX7_turn (wsV RX7 76 RX1 yX1_begin wsX1_begin) := goodIn_app (goodIn_of _ (by decide +kernel)) ggX7_turn_X1_begin
set_option maxRecDepth 20000 in
theorem ggX7_turn_X7_fromOf : GoodIn wsX7_turn wsX7_fromOf := goodIn_r _ [31] rfl (by decide +kernel)
set_option maxRecDepth 20000 in
theorem gX7_turn_X7_fromOf : GoodIn wsX7_turn (va_wsS RX7 125 yX7_fromOf wsX7_fromOf) := goodIn_app (goodIn_of _ (by decide +kernel)) ggX7_turn_X7_fromOf
set_option maxRecDepth 20000 in
theorem ggX7_turn_X7_lowerOf : GoodIn wsX7_turn wsX7_lowerOf := goodIn_r _ [34] rfl (by decide +kernel)
set_option maxRecDepth 20000 in
theorem gX7_turn_X7_lowerOf : GoodIn wsX7_turn (va_wsS RX7 129 yX7_lowerOf wsX7_lowerOf) := goodIn_app (goodIn_of _ (by decide +kernel)) ggX7_turn_X7_lowerOf
set_option maxRecDepth 20000 in
theorem ggX7_turn_X7_upperOf : GoodIn wsX7_turn wsX7_upperOf := goodIn_r _ [37] rfl (by decide +kernel)
set_option maxRecDepth 20000 in
theorem gX7_turn_X7_upperOf : GoodIn wsX7_turn (va_wsS RX7 132 yX7_upperOf wsX7_upperOf) := goodIn_app (goodIn_of _ (by decide +kernel)) ggX7_turn_X7_upperOf
set_option maxRecDepth 20000 in
theorem ggX7_turn_X7_toOf : GoodIn wsX7_turn wsX7_toOf := goodIn_r _ [40] rfl (by decide +kernel)
set_option maxRecDepth 20000 in
theorem gX7_turn_X7_toOf : GoodIn wsX7_turn (va_wsS RX7 138 yX7_toOf wsX7_toOf) := goodIn_app (goodIn_of _ (by decide +kernel)) ggX7_turn_X7_toOf
set_option maxRecDepth 20000 in
theorem ggX7_turn_X1_addArc : GoodIn wsX7_turn wsX1_addArc := goodIn_r _ [44, 27, 25, 45, 46, 47, 11, 48, 149, 150, 151, 152, 153, 154, 155, 156, 157, 158, 159, 160, 161] rfl (by decide +kernel)
set_option maxRecDepth 20000 in
theorem gX7_turn_X1_addArc : GoodIn wsX7_turn (wsV RX7 80 RX1 yX1_addArc wsX1_addArc) := goodIn_app (goodIn_of _ (by decide +kernel)) ggX7_turn_X1_addArc
set_option maxRecDepth 20000 in
theorem ggX7_turn_X1_addEndsOf : GoodIn wsX7_turn wsX1_addEndsOf := goodIn_r _ [52, 53, 54, 55, 11, 56, 57, 58, 59, 19, 60, 25, 28, 143, 144, 145, 149, 150, 151, 152, 153, 154, 155, 156, 157, 158, 159, 160, 161] rfl (by decide +kernel)
set_option maxRecDepth 20000 in
theorem gX7_turn_X1_addEndsOf : GoodIn wsX7_turn (wsV RX7 106 RX1 yX1_addEndsOf wsX1_addEndsOf) := goodIn_app (goodIn_of _ (by decide +kernel)) ggX7_turn_X1_addEndsOf
set_option maxRecDepth 20000 in
theorem ggX7_turn_X7_keepDraft : GoodIn wsX7_turn wsX7_keepDraft := goodIn_ca (goodIn_r _ [64, 65, 66, 15, 2, 1, 67, 68, 69, 19, 70, 53, 54, 71, 72, 73, 26, 74, 75, 76, 77, 25, 78, 79, 80, 81, 82, 83, 84, 27, 45, 85, 30, 11, 31, 39, 40, 86, 87, 88, 89, 90, 91, 92, 93, 28, 94, 95, 96, 97, 98, 46, 99, 100, 101, 102, 103, 104, 105, 106, 107, 22, 23, 24, 108, 109, 110, 111, 112, 113, 114, 115, 116, 117, 118, 119, 120, 121, 122, 123, 124, 125, 47, 48, 126, 127, 128, 129, 130, 131, 132, 133, 134, 36, 37, 33, 34, 135, 136, 137, 138, 139, 140, 141, 142, 143, 144, 145, 146, 147, 148, 149, 150, 151, 152, 153, 154, 155, 156, 157, 158, 159, 160, 161] (by decide +kernel) (by decide +kernel)) (goodIn_sub (fun _ h => List.mem_cons_of_mem _ (List.mem_append_right _ h)) (by decide +kernel))
set_option maxRecDepth 20000 in
theorem gX7_turn_X7_keepDraft : GoodIn wsX7_turn (wsV RX7 88 RX7 yX7_keepDraft wsX7_keepDraft) := goodIn_app (goodIn_of _ (by decide +kernel)) ggX7_turn_X7_keepDraft
theorem dX7_turn_0 : decode cX7_turn 0 = .ok (.aload_n 0, 1) := by decide +kernel
theorem dX7_turn_1 : decode cX7_turn 1 = .ok (.iload_n 1, 1) := by decide +kernel
theorem dX7_turn_2 : decode cX7_turn 2 = .ok (.invokevirtual 92, 3) := by decide +kernel
theorem dX7_turn_5 : decode cX7_turn 5 = .ok (.aload_n 0, 1) := by decide +kernel
theorem dX7_turn_6 : decode cX7_turn 6 = .ok (.getfield 19, 3) := by decide +kernel
theorem dX7_turn_9 : decode cX7_turn 9 = .ok (.iload_n 1, 1) := by decide +kernel
theorem dX7_turn_10 : decode cX7_turn 10 = .ok (.aaload, 1) := by decide +kernel
theorem dX7_turn_11 : decode cX7_turn 11 = .ok (.astore_n 2, 1) := by decide +kernel
theorem dX7_turn_12 : decode cX7_turn 12 = .ok (.aload_n 0, 1) := by decide +kernel
theorem dX7_turn_13 : decode cX7_turn 13 = .ok (.getfield 30, 3) := by decide +kernel
theorem dX7_turn_16 : decode cX7_turn 16 = .ok (.aload_n 2, 1) := by decide +kernel
theorem dX7_turn_17 : decode cX7_turn 17 = .ok (.getfield 95, 3) := by decide +kernel
theorem dX7_turn_20 : decode cX7_turn 20 = .ok (.iconst 0, 1) := by decide +kernel
theorem dX7_turn_21 : decode cX7_turn 21 = .ok (.invokevirtual 76, 3) := by decide +kernel
theorem dX7_turn_24 : decode cX7_turn 24 = .ok (.iconst 0, 1) := by decide +kernel
theorem dX7_turn_25 : decode cX7_turn 25 = .ok (.istore_n 3, 1) := by decide +kernel
theorem dX7_turn_26 : decode cX7_turn 26 = .ok (.iload_n 3, 1) := by decide +kernel
theorem dX7_turn_27 : decode cX7_turn 27 = .ok (.aload_n 2, 1) := by decide +kernel
theorem dX7_turn_28 : decode cX7_turn 28 = .ok (.getfield 115, 3) := by decide +kernel
theorem dX7_turn_31 : decode cX7_turn 31 = .ok (.getfield 119, 3) := by decide +kernel
theorem dX7_turn_34 : decode cX7_turn 34 = .ok (.if_icmp .ge 56, 3) := by decide +kernel
theorem dX7_turn_37 : decode cX7_turn 37 = .ok (.aload_n 2, 1) := by decide +kernel
theorem dX7_turn_38 : decode cX7_turn 38 = .ok (.getfield 115, 3) := by decide +kernel
theorem dX7_turn_41 : decode cX7_turn 41 = .ok (.getfield 122, 3) := by decide +kernel
theorem dX7_turn_44 : decode cX7_turn 44 = .ok (.iload_n 3, 1) := by decide +kernel
theorem dX7_turn_45 : decode cX7_turn 45 = .ok (.iaload, 1) := by decide +kernel
theorem dX7_turn_46 : decode cX7_turn 46 = .ok (.istore 4, 2) := by decide +kernel
theorem dX7_turn_48 : decode cX7_turn 48 = .ok (.aload_n 0, 1) := by decide +kernel
theorem dX7_turn_49 : decode cX7_turn 49 = .ok (.getfield 30, 3) := by decide +kernel
theorem dX7_turn_52 : decode cX7_turn 52 = .ok (.iload 4, 2) := by decide +kernel
theorem dX7_turn_54 : decode cX7_turn 54 = .ok (.invokestatic 125, 3) := by decide +kernel
theorem dX7_turn_57 : decode cX7_turn 57 = .ok (.iload 4, 2) := by decide +kernel
theorem dX7_turn_59 : decode cX7_turn 59 = .ok (.invokestatic 129, 3) := by decide +kernel
theorem dX7_turn_62 : decode cX7_turn 62 = .ok (.iload 4, 2) := by decide +kernel
theorem dX7_turn_64 : decode cX7_turn 64 = .ok (.invokestatic 132, 3) := by decide +kernel
theorem dX7_turn_67 : decode cX7_turn 67 = .ok (.aload_n 2, 1) := by decide +kernel
theorem dX7_turn_68 : decode cX7_turn 68 = .ok (.getfield 115, 3) := by decide +kernel
theorem dX7_turn_71 : decode cX7_turn 71 = .ok (.getfield 135, 3) := by decide +kernel
theorem dX7_turn_74 : decode cX7_turn 74 = .ok (.iload_n 3, 1) := by decide +kernel
theorem dX7_turn_75 : decode cX7_turn 75 = .ok (.iaload, 1) := by decide +kernel
theorem dX7_turn_76 : decode cX7_turn 76 = .ok (.iload 4, 2) := by decide +kernel
theorem dX7_turn_78 : decode cX7_turn 78 = .ok (.invokestatic 138, 3) := by decide +kernel
theorem dX7_turn_81 : decode cX7_turn 81 = .ok (.invokevirtual 80, 3) := by decide +kernel
theorem dX7_turn_84 : decode cX7_turn 84 = .ok (.iinc 3 1, 3) := by decide +kernel
theorem dX7_turn_87 : decode cX7_turn 87 = .ok (.goto (-61), 3) := by decide +kernel
theorem dX7_turn_90 : decode cX7_turn 90 = .ok (.aload_n 0, 1) := by decide +kernel
theorem dX7_turn_91 : decode cX7_turn 91 = .ok (.getfield 30, 3) := by decide +kernel
theorem dX7_turn_94 : decode cX7_turn 94 = .ok (.aload_n 2, 1) := by decide +kernel
theorem dX7_turn_95 : decode cX7_turn 95 = .ok (.iconst 0, 1) := by decide +kernel
theorem dX7_turn_96 : decode cX7_turn 96 = .ok (.invokevirtual 106, 3) := by decide +kernel
theorem dX7_turn_99 : decode cX7_turn 99 = .ok (.aload_n 0, 1) := by decide +kernel
theorem dX7_turn_100 : decode cX7_turn 100 = .ok (.invokevirtual 88, 3) := by decide +kernel
theorem dX7_turn_103 : decode cX7_turn 103 = .ok (.ireturn, 1) := by decide +kernel
set_option maxRecDepth 20000 in
theorem ggX7_compose_X7_needMachine : GoodIn wsX7_compose wsX7_needMachine := goodIn_ca (goodIn_r _ [10, 11, 12, 13, 154, 155, 156, 157, 158, 159, 160, 161] (by decide +kernel) (by decide +kernel)) (goodIn_sub (fun _ h => List.mem_cons_of_mem _ (List.mem_append_right _ h)) (by decide +kernel))
set_option maxRecDepth 20000 in
theorem gX7_compose_X7_needMachine : GoodIn wsX7_compose (wsV RX7 92 RX7 yX7_needMachine wsX7_needMachine) := goodIn_app (goodIn_of _ (by decide +kernel)) ggX7_compose_X7_needMachine
set_option maxRecDepth 20000 in
theorem ggX7_compose_X1_begin : GoodIn wsX7_compose wsX1_begin := goodIn_r _ [18, 19, 20, 21, 22, 23, 24, 25, 26, 165, 166, 167, 168, 169, 170, 171, 172, 173, 174, 175, 176, 177] rfl (by decide +kernel)
set_option maxRecDepth 20000 in
theorem gX7_compose_X1_begin : GoodIn wsX7_compose (wsV RX7 76 RX1 yX1_begin wsX1_begin) := goodIn_app (goodIn_of _ (by decide +kernel)) ggX7_compose_X1_begin
set_option maxRecDepth 20000 in
theorem ggX7_compose_X7_addMeetings : GoodIn wsX7_compose wsX7_addMeetings := goodIn_r _ [30, 31, 32, 33, 34, 35, 4, 5, 36, 37, 9, 38, 39, 40, 41, 42, 43, 44, 45, 46, 47, 48, 49, 50, 17, 51, 25, 23, 52, 53, 54, 55, 162, 163, 164, 178, 179, 180, 154, 155, 156, 157, 158, 159, 160, 161, 165, 166, 167, 168, 169, 170, 171, 172, 173, 174, 175, 176, 177] rfl (by decide +kernel)
set_option maxRecDepth 20000 in
theorem gX7_compose_X7_addMeetings : GoodIn wsX7_compose (wsV RX7 141 RX7 yX7_addMeetings wsX7_addMeetings) := goodIn_app (goodIn_of _ (by decide +kernel)) ggX7_compose_X7_addMeetings
set_option maxRecDepth 20000 in
theorem ggX7_compose_X7_addMovesOfOne : GoodIn wsX7_compose wsX7_addMovesOfOne := goodIn_r _ [59, 31, 32, 33, 4, 34, 36, 37, 9, 38, 42, 43, 44, 39, 40, 41, 45, 46, 47, 48, 49, 50, 17, 51, 25, 23, 52, 53, 54, 55, 162, 163, 164, 178, 179, 180, 154, 155, 156, 157, 158, 159, 160, 161, 165, 166, 167, 168, 169, 170, 171, 172, 173, 174, 175, 176, 177] rfl (by decide +kernel)
set_option maxRecDepth 20000 in
theorem gX7_compose_X7_addMovesOfOne : GoodIn wsX7_compose (wsV RX7 147 RX7 yX7_addMovesOfOne wsX7_addMovesOfOne) := goodIn_app (goodIn_of _ (by decide +kernel)) ggX7_compose_X7_addMovesOfOne
set_option maxRecDepth 20000 in
theorem ggX7_compose_X7_addMovesOfOther : GoodIn wsX7_compose wsX7_addMovesOfOther := goodIn_r _ [63, 31, 32, 33, 5, 4, 34, 39, 40, 9, 41, 42, 43, 44, 36, 37, 38, 45, 46, 47, 48, 49, 50, 17, 51, 25, 23, 52, 53, 54, 55, 162, 163, 164, 178, 179, 180, 154, 155, 156, 157, 158, 159, 160, 161, 165, 166, 167, 168, 169, 170, 171, 172, 173, 174, 175, 176, 177] rfl (by decide +kernel)
set_option maxRecDepth 20000 in
theorem gX7_compose_X7_addMovesOfOther : GoodIn wsX7_compose (wsV RX7 150 RX7 yX7_addMovesOfOther wsX7_addMovesOfOther) := goodIn_app (goodIn_of _ (by decide +kernel)) ggX7_compose_X7_addMovesOfOther
set_option maxRecDepth 20000 in
theorem ggX7_compose_X7_addEndsOfBoth : GoodIn wsX7_compose wsX7_addEndsOfBoth := goodIn_r _ [67, 5, 68, 4, 69, 70, 9, 71, 72, 73, 74, 17, 75, 76, 77, 78, 79, 80, 81, 23, 26, 162, 163, 164, 154, 155, 156, 157, 158, 159, 160, 161, 165, 166, 167, 168, 169, 170, 171, 172, 173, 174, 175, 176, 177] rfl (by decide +kernel)
set_option maxRecDepth 20000 in
theorem gX7_compose_X7_addEndsOfBoth : GoodIn wsX7_compose (wsV RX7 153 RX7 yX7_addEndsOfBoth wsX7_addEndsOfBoth) := goodIn_app (goodIn_of _ (by decide +kernel)) ggX7_compose_X7_addEndsOfBoth
set_option maxRecDepth 20000 in
theorem ggX7_compose_X7_keepDraft : GoodIn wsX7_compose wsX7_keepDraft := goodIn_ca (goodIn_r _ [85, 1, 2, 13, 4, 3, 86, 87, 88, 17, 89, 76, 77, 90, 91, 92, 24, 93, 94, 95, 96, 23, 97, 98, 99, 100, 101, 102, 103, 25, 52, 104, 43, 9, 44, 46, 47, 105, 106, 107, 108, 109, 110, 111, 112, 26, 113, 114, 115, 116, 117, 53, 118, 119, 120, 121, 122, 123, 124, 125, 126, 20, 21, 22, 127, 128, 129, 130, 131, 132, 133, 134, 135, 136, 137, 138, 139, 140, 141, 142, 143, 144, 54, 55, 145, 146, 147, 148, 149, 150, 151, 152, 153, 40, 41, 37, 38, 154, 155, 156, 157, 158, 159, 160, 161, 162, 163, 164, 178, 179, 180, 165, 166, 167, 168, 169, 170, 171, 172, 173, 174, 175, 176, 177] (by decide +kernel) (by decide +kernel)) (goodIn_sub (fun _ h => List.mem_cons_of_mem _ (List.mem_append_left _ (List.mem_append_right _ h))) (by decide +kernel))
set_option maxRecDepth 20000 in
theorem gX7_compose_X7_keepDraft : GoodIn wsX7_compose (wsV RX7 88 RX7 yX7_keepDraft wsX7_keepDraft) := goodIn_app (goodIn_of _ (by decide +kernel)) ggX7_compose_X7_keepDraft
theorem dX7_compose_0 : decode cX7_compose 0 = .ok (.aload_n 0, 1) := by decide +kernel
theorem dX7_compose_1 : decode cX7_compose 1 = .ok (.iload_n 1, 1) := by decide +kernel
theorem dX7_compose_2 : decode cX7_compose 2 = .ok (.invokevirtual 92, 3) := by decide +kernel
theorem dX7_compose_5 : decode cX7_compose 5 = .ok (.aload_n 0, 1) := by decide +kernel
theorem dX7_compose_6 : decode cX7_compose 6 = .ok (.iload_n 2, 1) := by decide +kernel
theorem dX7_compose_7 : decode cX7_compose 7 = .ok (.invokevirtual 92, 3) := by decide +kernel
theorem dX7_compose_10 : decode cX7_compose 10 = .ok (.aload_n 0, 1) := by decide +kernel
theorem dX7_compose_11 : decode cX7_compose 11 = .ok (.getfield 19, 3) := by decide +kernel
theorem dX7_compose_14 : decode cX7_compose 14 = .ok (.iload_n 1, 1) := by decide +kernel
theorem dX7_compose_15 : decode cX7_compose 15 = .ok (.aaload, 1) := by decide +kernel
theorem dX7_compose_16 : decode cX7_compose 16 = .ok (.astore_n 3, 1) := by decide +kernel
theorem dX7_compose_17 : decode cX7_compose 17 = .ok (.aload_n 0, 1) := by decide +kernel
theorem dX7_compose_18 : decode cX7_compose 18 = .ok (.getfield 19, 3) := by decide +kernel
theorem dX7_compose_21 : decode cX7_compose 21 = .ok (.iload_n 2, 1) := by decide +kernel
theorem dX7_compose_22 : decode cX7_compose 22 = .ok (.aaload, 1) := by decide +kernel
theorem dX7_compose_23 : decode cX7_compose 23 = .ok (.astore 4, 2) := by decide +kernel
theorem dX7_compose_25 : decode cX7_compose 25 = .ok (.aload_n 0, 1) := by decide +kernel
theorem dX7_compose_26 : decode cX7_compose 26 = .ok (.getfield 30, 3) := by decide +kernel
theorem dX7_compose_29 : decode cX7_compose 29 = .ok (.aload_n 3, 1) := by decide +kernel
theorem dX7_compose_30 : decode cX7_compose 30 = .ok (.getfield 95, 3) := by decide +kernel
theorem dX7_compose_33 : decode cX7_compose 33 = .ok (.aload 4, 2) := by decide +kernel
theorem dX7_compose_35 : decode cX7_compose 35 = .ok (.getfield 95, 3) := by decide +kernel
theorem dX7_compose_38 : decode cX7_compose 38 = .ok (.imul, 1) := by decide +kernel
theorem dX7_compose_39 : decode cX7_compose 39 = .ok (.iconst 0, 1) := by decide +kernel
theorem dX7_compose_40 : decode cX7_compose 40 = .ok (.invokevirtual 76, 3) := by decide +kernel
theorem dX7_compose_43 : decode cX7_compose 43 = .ok (.aload_n 0, 1) := by decide +kernel
theorem dX7_compose_44 : decode cX7_compose 44 = .ok (.aload_n 3, 1) := by decide +kernel
theorem dX7_compose_45 : decode cX7_compose 45 = .ok (.aload 4, 2) := by decide +kernel
theorem dX7_compose_47 : decode cX7_compose 47 = .ok (.invokevirtual 141, 3) := by decide +kernel
theorem dX7_compose_50 : decode cX7_compose 50 = .ok (.ifCond .ne 13, 3) := by decide +kernel
theorem dX7_compose_53 : decode cX7_compose 53 = .ok (.new 66, 3) := by decide +kernel
theorem dX7_compose_56 : decode cX7_compose 56 = .ok (.dup, 1) := by decide +kernel
theorem dX7_compose_57 : decode cX7_compose 57 = .ok (.ldc 145, 2) := by decide +kernel
theorem dX7_compose_59 : decode cX7_compose 59 = .ok (.invokespecial 70, 3) := by decide +kernel
theorem dX7_compose_62 : decode cX7_compose 62 = .ok (.athrow, 1) := by decide +kernel
theorem dX7_compose_63 : decode cX7_compose 63 = .ok (.aload_n 0, 1) := by decide +kernel
theorem dX7_compose_64 : decode cX7_compose 64 = .ok (.aload_n 3, 1) := by decide +kernel
theorem dX7_compose_65 : decode cX7_compose 65 = .ok (.aload 4, 2) := by decide +kernel
theorem dX7_compose_67 : decode cX7_compose 67 = .ok (.getfield 95, 3) := by decide +kernel
theorem dX7_compose_70 : decode cX7_compose 70 = .ok (.invokevirtual 147, 3) := by decide +kernel
theorem dX7_compose_73 : decode cX7_compose 73 = .ok (.aload_n 0, 1) := by decide +kernel
theorem dX7_compose_74 : decode cX7_compose 74 = .ok (.aload 4, 2) := by decide +kernel
theorem dX7_compose_76 : decode cX7_compose 76 = .ok (.aload_n 3, 1) := by decide +kernel
theorem dX7_compose_77 : decode cX7_compose 77 = .ok (.getfield 95, 3) := by decide +kernel
theorem dX7_compose_80 : decode cX7_compose 80 = .ok (.invokevirtual 150, 3) := by decide +kernel
theorem dX7_compose_83 : decode cX7_compose 83 = .ok (.aload_n 0, 1) := by decide +kernel
theorem dX7_compose_84 : decode cX7_compose 84 = .ok (.aload_n 3, 1) := by decide +kernel
theorem dX7_compose_85 : decode cX7_compose 85 = .ok (.aload 4, 2) := by decide +kernel
theorem dX7_compose_87 : decode cX7_compose 87 = .ok (.invokevirtual 153, 3) := by decide +kernel
theorem dX7_compose_90 : decode cX7_compose 90 = .ok (.aload_n 0, 1) := by decide +kernel
theorem dX7_compose_91 : decode cX7_compose 91 = .ok (.invokevirtual 88, 3) := by decide +kernel
theorem dX7_compose_94 : decode cX7_compose 94 = .ok (.ireturn, 1) := by decide +kernel
set_option maxRecDepth 20000 in
theorem ggX7_side_X7_needMachine : GoodIn wsX7_side wsX7_needMachine := goodIn_ca (goodIn_r _ [11, 12, 13, 14, 134, 135, 136, 137, 138, 139, 140, 141] (by decide +kernel) (by decide +kernel)) (goodIn_sub (fun _ h => List.mem_cons_of_mem _ (List.mem_append_left _ (List.mem_append_right _ h))) (by decide +kernel))
set_option maxRecDepth 20000 in
theorem gX7_side_X7_needMachine : GoodIn wsX7_side (wsV RX7 92 RX7 yX7_needMachine wsX7_needMachine) := goodIn_app (goodIn_of _ (by decide +kernel)) ggX7_side_X7_needMachine
set_option maxRecDepth 20000 in
theorem ggX7_side_X1_begin : GoodIn wsX7_side wsX1_begin := goodIn_r _ [19, 20, 21, 22, 23, 24, 25, 26, 27, 148, 149, 150, 151, 152, 153, 154, 155, 156, 157, 158, 159, 160] rfl (by decide +kernel)
set_option maxRecDepth 20000 in
theorem gX7_side_X1_begin : GoodIn wsX7_side (wsV RX7 76 RX1 yX1_begin wsX1_begin) := goodIn_app (goodIn_of _ (by decide +kernel)) ggX7_side_X1_begin
set_option maxRecDepth 20000 in
theorem ggX7_side_X7_upperOf : GoodIn wsX7_side wsX7_upperOf := goodIn_r _ [30] rfl (by decide +kernel)
set_option maxRecDepth 20000 in
theorem gX7_side_X7_upperOf : GoodIn wsX7_side (va_wsS RX7 132 yX7_upperOf wsX7_upperOf) := goodIn_app (goodIn_of _ (by decide +kernel)) ggX7_side_X7_upperOf
set_option maxRecDepth 20000 in
theorem ggX7_side_X7_lowerOf : GoodIn wsX7_side wsX7_lowerOf := goodIn_r _ [33] rfl (by decide +kernel)
set_option maxRecDepth 20000 in
theorem gX7_side_X7_lowerOf : GoodIn wsX7_side (va_wsS RX7 129 yX7_lowerOf wsX7_lowerOf) := goodIn_app (goodIn_of _ (by decide +kernel)) ggX7_side_X7_lowerOf
set_option maxRecDepth 20000 in
theorem ggX7_side_X7_fromOf : GoodIn wsX7_side wsX7_fromOf := goodIn_r _ [36] rfl (by decide +kernel)
set_option maxRecDepth 20000 in
theorem gX7_side_X7_fromOf : GoodIn wsX7_side (va_wsS RX7 125 yX7_fromOf wsX7_fromOf) := goodIn_app (goodIn_of _ (by decide +kernel)) ggX7_side_X7_fromOf
set_option maxRecDepth 20000 in
theorem ggX7_side_X7_toOf : GoodIn wsX7_side wsX7_toOf := goodIn_r _ [39] rfl (by decide +kernel)
set_option maxRecDepth 20000 in
theorem gX7_side_X7_toOf : GoodIn wsX7_side (va_wsS RX7 138 yX7_toOf wsX7_toOf) := goodIn_app (goodIn_of _ (by decide +kernel)) ggX7_side_X7_toOf
set_option maxRecDepth 20000 in
theorem ggX7_side_X1_addArc : GoodIn wsX7_side wsX1_addArc := goodIn_r _ [43, 26, 24, 44, 45, 46, 10, 47, 148, 149, 150, 151, 152, 153, 154, 155, 156, 157, 158, 159, 160] rfl (by decide +kernel)
set_option maxRecDepth 20000 in
theorem gX7_side_X1_addArc : GoodIn wsX7_side (wsV RX7 80 RX1 yX1_addArc wsX1_addArc) := goodIn_app (goodIn_of _ (by decide +kernel)) ggX7_side_X1_addArc
set_option maxRecDepth 20000 in
theorem ggX7_side_X1_addEndsOf : GoodIn wsX7_side wsX1_addEndsOf := goodIn_r _ [51, 52, 53, 54, 10, 55, 56, 57, 58, 18, 59, 24, 27, 142, 143, 144, 148, 149, 150, 151, 152, 153, 154, 155, 156, 157, 158, 159, 160] rfl (by decide +kernel)
set_option maxRecDepth 20000 in
theorem gX7_side_X1_addEndsOf : GoodIn wsX7_side (wsV RX7 106 RX1 yX1_addEndsOf wsX1_addEndsOf) := goodIn_app (goodIn_of _ (by decide +kernel)) ggX7_side_X1_addEndsOf
set_option maxRecDepth 20000 in
theorem ggX7_side_X7_keepDraft : GoodIn wsX7_side wsX7_keepDraft := goodIn_ca (goodIn_r _ [63, 64, 65, 14, 2, 1, 66, 67, 68, 18, 69, 52, 53, 70, 71, 72, 25, 73, 74, 75, 76, 24, 77, 78, 79, 80, 81, 82, 83, 26, 44, 84, 35, 10, 36, 38, 39, 85, 86, 87, 88, 89, 90, 91, 92, 27, 93, 94, 95, 96, 97, 45, 98, 99, 100, 101, 102, 103, 104, 105, 106, 21, 22, 23, 107, 108, 109, 110, 111, 112, 113, 114, 115, 116, 117, 118, 119, 120, 121, 122, 123, 124, 46, 47, 125, 126, 127, 128, 129, 130, 131, 132, 133, 29, 30, 32, 33, 134, 135, 136, 137, 138, 139, 140, 141, 142, 143, 144, 145, 146, 147, 148, 149, 150, 151, 152, 153, 154, 155, 156, 157, 158, 159, 160] (by decide +kernel) (by decide +kernel)) (goodIn_sub (fun _ h => List.mem_cons_of_mem _ (List.mem_append_right _ h)) (by decide +kernel))
set_option maxRecDepth 20000 in
theorem gX7_side_X7_keepDraft : GoodIn wsX7_side (wsV RX7 88 RX7 yX7_keepDraft wsX7_keepDraft) := goodIn_app (goodIn_of _ (by decide +kernel)) ggX7_side_X7_keepDraft
theorem dX7_side_0 : decode cX7_side 0 = .ok (.aload_n 0, 1) := by decide +kernel
theorem dX7_side_1 : decode cX7_side 1 = .ok (.iload_n 1, 1) := by decide +kernel
theorem dX7_side_2 : decode cX7_side 2 = .ok (.invokevirtual 92, 3) := by decide +kernel
theorem dX7_side_5 : decode cX7_side 5 = .ok (.aload_n 0, 1) := by decide +kernel
theorem dX7_side_6 : decode cX7_side 6 = .ok (.getfield 19, 3) := by decide +kernel
theorem dX7_side_9 : decode cX7_side 9 = .ok (.iload_n 1, 1) := by decide +kernel
theorem dX7_side_10 : decode cX7_side 10 = .ok (.aaload, 1) := by decide +kernel
theorem dX7_side_11 : decode cX7_side 11 = .ok (.astore_n 3, 1) := by decide +kernel
theorem dX7_side_12 : decode cX7_side 12 = .ok (.aload_n 0, 1) := by decide +kernel
theorem dX7_side_13 : decode cX7_side 13 = .ok (.getfield 30, 3) := by decide +kernel
theorem dX7_side_16 : decode cX7_side 16 = .ok (.aload_n 3, 1) := by decide +kernel
theorem dX7_side_17 : decode cX7_side 17 = .ok (.getfield 95, 3) := by decide +kernel
theorem dX7_side_20 : decode cX7_side 20 = .ok (.iconst 0, 1) := by decide +kernel
theorem dX7_side_21 : decode cX7_side 21 = .ok (.invokevirtual 76, 3) := by decide +kernel
theorem dX7_side_24 : decode cX7_side 24 = .ok (.iconst 0, 1) := by decide +kernel
theorem dX7_side_25 : decode cX7_side 25 = .ok (.istore 4, 2) := by decide +kernel
theorem dX7_side_27 : decode cX7_side 27 = .ok (.iload 4, 2) := by decide +kernel
theorem dX7_side_29 : decode cX7_side 29 = .ok (.aload_n 3, 1) := by decide +kernel
theorem dX7_side_30 : decode cX7_side 30 = .ok (.getfield 115, 3) := by decide +kernel
theorem dX7_side_33 : decode cX7_side 33 = .ok (.getfield 119, 3) := by decide +kernel
theorem dX7_side_36 : decode cX7_side 36 = .ok (.if_icmp .ge 62, 3) := by decide +kernel
theorem dX7_side_39 : decode cX7_side 39 = .ok (.aload_n 3, 1) := by decide +kernel
theorem dX7_side_40 : decode cX7_side 40 = .ok (.getfield 115, 3) := by decide +kernel
theorem dX7_side_43 : decode cX7_side 43 = .ok (.getfield 122, 3) := by decide +kernel
theorem dX7_side_46 : decode cX7_side 46 = .ok (.iload 4, 2) := by decide +kernel
theorem dX7_side_48 : decode cX7_side 48 = .ok (.iaload, 1) := by decide +kernel
theorem dX7_side_49 : decode cX7_side 49 = .ok (.istore 5, 2) := by decide +kernel
theorem dX7_side_51 : decode cX7_side 51 = .ok (.iload_n 2, 1) := by decide +kernel
theorem dX7_side_52 : decode cX7_side 52 = .ok (.ifCond .eq 11, 3) := by decide +kernel
theorem dX7_side_55 : decode cX7_side 55 = .ok (.iload 5, 2) := by decide +kernel
theorem dX7_side_57 : decode cX7_side 57 = .ok (.invokestatic 132, 3) := by decide +kernel
theorem dX7_side_60 : decode cX7_side 60 = .ok (.goto 8, 3) := by decide +kernel
theorem dX7_side_63 : decode cX7_side 63 = .ok (.iload 5, 2) := by decide +kernel
theorem dX7_side_65 : decode cX7_side 65 = .ok (.invokestatic 129, 3) := by decide +kernel
theorem dX7_side_68 : decode cX7_side 68 = .ok (.istore 6, 2) := by decide +kernel
theorem dX7_side_70 : decode cX7_side 70 = .ok (.aload_n 0, 1) := by decide +kernel
theorem dX7_side_71 : decode cX7_side 71 = .ok (.getfield 30, 3) := by decide +kernel
theorem dX7_side_74 : decode cX7_side 74 = .ok (.iload 5, 2) := by decide +kernel
theorem dX7_side_76 : decode cX7_side 76 = .ok (.invokestatic 125, 3) := by decide +kernel
theorem dX7_side_79 : decode cX7_side 79 = .ok (.iload 6, 2) := by decide +kernel
theorem dX7_side_81 : decode cX7_side 81 = .ok (.iload 6, 2) := by decide +kernel
theorem dX7_side_83 : decode cX7_side 83 = .ok (.iconst 0, 1) := by decide +kernel
theorem dX7_side_84 : decode cX7_side 84 = .ok (.iload 5, 2) := by decide +kernel
theorem dX7_side_86 : decode cX7_side 86 = .ok (.invokestatic 138, 3) := by decide +kernel
theorem dX7_side_89 : decode cX7_side 89 = .ok (.invokevirtual 80, 3) := by decide +kernel
theorem dX7_side_92 : decode cX7_side 92 = .ok (.iinc 4 1, 3) := by decide +kernel
theorem dX7_side_95 : decode cX7_side 95 = .ok (.goto (-68), 3) := by decide +kernel
theorem dX7_side_98 : decode cX7_side 98 = .ok (.aload_n 0, 1) := by decide +kernel
theorem dX7_side_99 : decode cX7_side 99 = .ok (.getfield 30, 3) := by decide +kernel
theorem dX7_side_102 : decode cX7_side 102 = .ok (.aload_n 3, 1) := by decide +kernel
theorem dX7_side_103 : decode cX7_side 103 = .ok (.iconst 0, 1) := by decide +kernel
theorem dX7_side_104 : decode cX7_side 104 = .ok (.invokevirtual 106, 3) := by decide +kernel
theorem dX7_side_107 : decode cX7_side 107 = .ok (.aload_n 0, 1) := by decide +kernel
theorem dX7_side_108 : decode cX7_side 108 = .ok (.invokevirtual 88, 3) := by decide +kernel
theorem dX7_side_111 : decode cX7_side 111 = .ok (.ireturn, 1) := by decide +kernel
set_option maxRecDepth 20000 in
theorem ggX7_least_X7_needMachine : GoodIn wsX7_least wsX7_needMachine := goodIn_ca (goodIn_r _ [8, 9, 10, 11, 250, 251, 252, 253, 254, 255, 256, 257] (by decide +kernel) (by decide +kernel)) (goodIn_sub (fun _ h => List.mem_cons_of_mem _ (List.mem_append_left _ (List.mem_append_right _ h))) (by decide +kernel))
set_option maxRecDepth 20000 in
theorem gX7_least_X7_needMachine : GoodIn wsX7_least (wsV RX7 92 RX7 yX7_needMachine wsX7_needMachine) := goodIn_app (goodIn_of _ (by decide +kernel)) ggX7_least_X7_needMachine
set_option maxRecDepth 20000 in
theorem ggX7_least_X7_needPlain : GoodIn wsX7_least wsX7_needPlain := goodIn_ca (goodIn_r _ [15, 16, 17, 2, 18, 19, 20, 21, 22, 23, 24, 25, 26, 27, 7, 28, 29, 30, 250, 251, 252, 253, 254, 255, 256, 257, 258, 259, 260, 261, 262, 263] (by decide +kernel) (by decide +kernel)) (goodIn_sub (fun _ h => List.mem_cons_of_mem _ (List.mem_append_right _ h)) (by decide +kernel))
set_option maxRecDepth 20000 in
theorem gX7_least_X7_needPlain : GoodIn wsX7_least (wsV RX7 157 RX7 yX7_needPlain wsX7_needPlain) := goodIn_app (goodIn_of _ (by decide +kernel)) ggX7_least_X7_needPlain
set_option maxRecDepth 20000 in
theorem ggX7_least_X5_exploreOne : GoodIn wsX7_least wsX5_exploreOne := goodIn_r _ [35, 36, 37, 38, 39, 40, 41, 42, 43, 44, 45, 46, 47, 48, 49, 50, 51, 52, 53, 54, 55, 56, 57, 7, 58, 59, 60, 27, 28, 61, 62, 63, 64, 65, 66, 67, 34, 68, 69, 70, 71, 72, 73, 74, 75, 76, 77, 78, 79, 80, 81, 82, 83, 84, 85, 86, 87, 88, 89, 90, 91, 92, 93, 94, 95, 96, 264, 265, 266, 267, 268, 269, 270, 271, 272, 273, 274, 275, 276, 258, 259, 260, 277, 278, 279, 280, 261, 262, 263] rfl (by decide +kernel)
set_option maxRecDepth 20000 in
theorem gX7_least_X5_exploreOne : GoodIn wsX7_least (wsV RX7 160 RX5 yX5_exploreOne wsX5_exploreOne) := goodIn_app (goodIn_of _ (by decide +kernel)) ggX7_least_X5_exploreOne
set_option maxRecDepth 20000 in
theorem ggX7_least_X7_needSets : GoodIn wsX7_least wsX7_needSets := goodIn_ca (goodIn_r _ [99, 16, 17] (by decide +kernel) (by decide +kernel)) (goodIn_sub (fun _ h => List.mem_cons_of_mem _ (List.mem_append_right _ h)) (by decide +kernel))
set_option maxRecDepth 20000 in
theorem gX7_least_X7_needSets : GoodIn wsX7_least (va_wsS RX7 164 yX7_needSets wsX7_needSets) := goodIn_app (goodIn_of _ (by decide +kernel)) ggX7_least_X7_needSets
set_option maxRecDepth 20000 in
theorem ggX7_least_X5_draw : GoodIn wsX7_least wsX5_draw := goodIn_r _ [103, 104, 105, 106, 107, 108, 34, 109, 69, 110, 111, 112, 113, 36, 70, 37, 71, 38, 114, 115, 116, 42, 117, 47, 118, 119, 120, 121, 72, 122, 123, 124, 125, 126, 127, 128, 129, 130, 131, 132, 133, 134, 135, 136, 137, 138, 139, 140, 141, 142, 143, 144, 145, 146, 147, 148, 149, 150, 151, 152, 153, 154, 155, 156, 157, 158, 159, 160, 161, 162, 163, 164, 165, 166, 167, 168, 169, 170, 171, 7, 172, 264, 265, 266, 267, 268, 269, 270, 271, 272, 273, 274, 275, 276, 277, 278, 279, 280, 281, 282, 283, 284, 285, 286, 287, 288, 289, 290, 291, 292, 293] rfl (by decide +kernel)
set_option maxRecDepth 20000 in
theorem gX7_least_X5_draw : GoodIn wsX7_least (wsV RX7 168 RX5 yX5_draw wsX5_draw) := goodIn_app (goodIn_of _ (by decide +kernel)) ggX7_least_X5_draw
set_option maxRecDepth 20000 in
theorem ggX7_least_X7_needStates : GoodIn wsX7_least wsX7_needStates := goodIn_ca (goodIn_r _ [175, 16, 17] (by decide +kernel) (by decide +kernel)) (goodIn_sub (fun _ h => List.mem_cons_of_mem _ (List.mem_append_right _ h)) (by decide +kernel))
set_option maxRecDepth 20000 in
theorem gX7_least_X7_needStates : GoodIn wsX7_least (va_wsS RX7 172 yX7_needStates wsX7_needStates) := goodIn_app (goodIn_of _ (by decide +kernel)) ggX7_least_X7_needStates
set_option maxRecDepth 20000 in
theorem ggX7_least_X7_keepDraft : GoodIn wsX7_least wsX7_keepDraft := goodIn_ca (goodIn_r _ [179, 16, 17, 11, 3, 2, 180, 181, 182, 125, 183, 184, 185, 186, 187, 188, 132, 189, 190, 191, 192, 131, 193, 194, 195, 196, 197, 198, 199, 133, 169, 200, 57, 7, 58, 59, 60, 201, 202, 203, 204, 205, 206, 207, 208, 134, 209, 210, 211, 212, 213, 170, 214, 215, 216, 217, 218, 219, 220, 221, 222, 128, 129, 130, 223, 224, 225, 226, 227, 228, 229, 230, 231, 232, 233, 234, 235, 236, 237, 238, 239, 240, 171, 172, 241, 242, 243, 244, 245, 246, 247, 248, 249, 27, 28, 29, 30, 250, 251, 252, 253, 254, 255, 256, 257, 258, 259, 260, 261, 262, 263, 281, 282, 283, 284, 285, 286, 287, 288, 289, 290, 291, 292, 293] (by decide +kernel) (by decide +kernel)) (goodIn_sub (fun _ h => List.mem_cons_of_mem _ (List.mem_append_right _ h)) (by decide +kernel))
set_option maxRecDepth 20000 in
theorem gX7_least_X7_keepDraft : GoodIn wsX7_least (wsV RX7 88 RX7 yX7_keepDraft wsX7_keepDraft) := goodIn_app (goodIn_of _ (by decide +kernel)) ggX7_least_X7_keepDraft
theorem dX7_least_0 : decode cX7_least 0 = .ok (.aload_n 0, 1) := by decide +kernel
theorem dX7_least_1 : decode cX7_least 1 = .ok (.iload_n 1, 1) := by decide +kernel
theorem dX7_least_2 : decode cX7_least 2 = .ok (.invokevirtual 92, 3) := by decide +kernel
theorem dX7_least_5 : decode cX7_least 5 = .ok (.aload_n 0, 1) := by decide +kernel
theorem dX7_least_6 : decode cX7_least 6 = .ok (.iload_n 1, 1) := by decide +kernel
theorem dX7_least_7 : decode cX7_least 7 = .ok (.invokevirtual 157, 3) := by decide +kernel
theorem dX7_least_10 : decode cX7_least 10 = .ok (.aload_n 0, 1) := by decide +kernel
theorem dX7_least_11 : decode cX7_least 11 = .ok (.getfield 37, 3) := by decide +kernel
theorem dX7_least_14 : decode cX7_least 14 = .ok (.aload_n 0, 1) := by decide +kernel
theorem dX7_least_15 : decode cX7_least 15 = .ok (.getfield 19, 3) := by decide +kernel
theorem dX7_least_18 : decode cX7_least 18 = .ok (.iload_n 1, 1) := by decide +kernel
theorem dX7_least_19 : decode cX7_least 19 = .ok (.aaload, 1) := by decide +kernel
theorem dX7_least_20 : decode cX7_least 20 = .ok (.invokevirtual 160, 3) := by decide +kernel
theorem dX7_least_23 : decode cX7_least 23 = .ok (.invokestatic 164, 3) := by decide +kernel
theorem dX7_least_26 : decode cX7_least 26 = .ok (.aload_n 0, 1) := by decide +kernel
theorem dX7_least_27 : decode cX7_least 27 = .ok (.getfield 37, 3) := by decide +kernel
theorem dX7_least_30 : decode cX7_least 30 = .ok (.aload_n 0, 1) := by decide +kernel
theorem dX7_least_31 : decode cX7_least 31 = .ok (.getfield 30, 3) := by decide +kernel
theorem dX7_least_34 : decode cX7_least 34 = .ok (.invokevirtual 168, 3) := by decide +kernel
theorem dX7_least_37 : decode cX7_least 37 = .ok (.invokestatic 172, 3) := by decide +kernel
theorem dX7_least_40 : decode cX7_least 40 = .ok (.aload_n 0, 1) := by decide +kernel
theorem dX7_least_41 : decode cX7_least 41 = .ok (.invokevirtual 88, 3) := by decide +kernel
theorem dX7_least_44 : decode cX7_least 44 = .ok (.ireturn, 1) := by decide +kernel
set_option maxRecDepth 20000 in
theorem ggX7_meet_X7_needMachine : GoodIn wsX7_meet wsX7_needMachine := goodIn_ca (goodIn_r _ [8, 9, 10, 11, 246, 247, 248, 249, 250, 251, 252, 253] (by decide +kernel) (by decide +kernel)) (goodIn_sub (fun _ h => List.mem_cons_of_mem _ (List.mem_append_left _ (List.mem_append_right _ h))) (by decide +kernel))
set_option maxRecDepth 20000 in
theorem gX7_meet_X7_needMachine : GoodIn wsX7_meet (wsV RX7 92 RX7 yX7_needMachine wsX7_needMachine) := goodIn_app (goodIn_of _ (by decide +kernel)) ggX7_meet_X7_needMachine
set_option maxRecDepth 20000 in
theorem ggX7_meet_X7_needPlain : GoodIn wsX7_meet wsX7_needPlain := goodIn_ca (goodIn_r _ [15, 16, 17, 2, 18, 19, 20, 21, 22, 23, 24, 25, 26, 27, 7, 28, 29, 30, 246, 247, 248, 249, 250, 251, 252, 253, 254, 255, 256, 257, 258, 259] (by decide +kernel) (by decide +kernel)) (goodIn_sub (fun _ h => List.mem_cons_of_mem _ (List.mem_append_right _ h)) (by decide +kernel))
set_option maxRecDepth 20000 in
theorem gX7_meet_X7_needPlain : GoodIn wsX7_meet (wsV RX7 157 RX7 yX7_needPlain wsX7_needPlain) := goodIn_app (goodIn_of _ (by decide +kernel)) ggX7_meet_X7_needPlain
set_option maxRecDepth 20000 in
theorem ggX7_meet_X5_exploreTwo : GoodIn wsX7_meet wsX5_exploreTwo := goodIn_r _ [35, 36, 37, 38, 39, 40, 41, 42, 43, 44, 45, 46, 47, 48, 49, 50, 51, 52, 53, 54, 55, 56, 57, 7, 58, 59, 60, 27, 28, 61, 62, 63, 34, 64, 65, 66, 67, 68, 69, 70, 71, 72, 73, 74, 75, 76, 77, 78, 79, 80, 81, 82, 83, 84, 85, 86, 87, 88, 89, 90, 91, 92, 260, 261, 262, 263, 264, 265, 266, 267, 268, 269, 270, 271, 272, 254, 255, 256, 273, 274, 275, 276, 257, 258, 259] rfl (by decide +kernel)
set_option maxRecDepth 20000 in
theorem gX7_meet_X5_exploreTwo : GoodIn wsX7_meet (wsV RX7 175 RX5 yX5_exploreTwo wsX5_exploreTwo) := goodIn_app (goodIn_of _ (by decide +kernel)) ggX7_meet_X5_exploreTwo
set_option maxRecDepth 20000 in
theorem ggX7_meet_X7_needSets : GoodIn wsX7_meet wsX7_needSets := goodIn_ca (goodIn_r _ [95, 16, 17] (by decide +kernel) (by decide +kernel)) (goodIn_sub (fun _ h => List.mem_cons_of_mem _ (List.mem_append_right _ h)) (by decide +kernel))
set_option maxRecDepth 20000 in
theorem gX7_meet_X7_needSets : GoodIn wsX7_meet (va_wsS RX7 164 yX7_needSets wsX7_needSets) := goodIn_app (goodIn_of _ (by decide +kernel)) ggX7_meet_X7_needSets
set_option maxRecDepth 20000 in
theorem ggX7_meet_X5_draw : GoodIn wsX7_meet wsX5_draw := goodIn_r _ [99, 100, 101, 102, 103, 104, 34, 105, 65, 106, 107, 108, 109, 36, 66, 37, 67, 38, 110, 111, 112, 42, 113, 47, 114, 115, 116, 117, 68, 118, 119, 120, 121, 122, 123, 124, 125, 126, 127, 128, 129, 130, 131, 132, 133, 134, 135, 136, 137, 138, 139, 140, 141, 142, 143, 144, 145, 146, 147, 148, 149, 150, 151, 152, 153, 154, 155, 156, 157, 158, 159, 160, 161, 162, 163, 164, 165, 166, 167, 7, 168, 260, 261, 262, 263, 264, 265, 266, 267, 268, 269, 270, 271, 272, 273, 274, 275, 276, 277, 278, 279, 280, 281, 282, 283, 284, 285, 286, 287, 288, 289] rfl (by decide +kernel)
set_option maxRecDepth 20000 in
theorem gX7_meet_X5_draw : GoodIn wsX7_meet (wsV RX7 168 RX5 yX5_draw wsX5_draw) := goodIn_app (goodIn_of _ (by decide +kernel)) ggX7_meet_X5_draw
set_option maxRecDepth 20000 in
theorem ggX7_meet_X7_needStates : GoodIn wsX7_meet wsX7_needStates := goodIn_ca (goodIn_r _ [171, 16, 17] (by decide +kernel) (by decide +kernel)) (goodIn_sub (fun _ h => List.mem_cons_of_mem _ (List.mem_append_right _ h)) (by decide +kernel))
set_option maxRecDepth 20000 in
theorem gX7_meet_X7_needStates : GoodIn wsX7_meet (va_wsS RX7 172 yX7_needStates wsX7_needStates) := goodIn_app (goodIn_of _ (by decide +kernel)) ggX7_meet_X7_needStates
set_option maxRecDepth 20000 in
theorem ggX7_meet_X7_keepDraft : GoodIn wsX7_meet wsX7_keepDraft := goodIn_ca (goodIn_r _ [175, 16, 17, 11, 3, 2, 176, 177, 178, 121, 179, 180, 181, 182, 183, 184, 128, 185, 186, 187, 188, 127, 189, 190, 191, 192, 193, 194, 195, 129, 165, 196, 57, 7, 58, 59, 60, 197, 198, 199, 200, 201, 202, 203, 204, 130, 205, 206, 207, 208, 209, 166, 210, 211, 212, 213, 214, 215, 216, 217, 218, 124, 125, 126, 219, 220, 221, 222, 223, 224, 225, 226, 227, 228, 229, 230, 231, 232, 233, 234, 235, 236, 167, 168, 237, 238, 239, 240, 241, 242, 243, 244, 245, 27, 28, 29, 30, 246, 247, 248, 249, 250, 251, 252, 253, 254, 255, 256, 257, 258, 259, 277, 278, 279, 280, 281, 282, 283, 284, 285, 286, 287, 288, 289] (by decide +kernel) (by decide +kernel)) (goodIn_sub (fun _ h => List.mem_cons_of_mem _ (List.mem_append_right _ h)) (by decide +kernel))
set_option maxRecDepth 20000 in
theorem gX7_meet_X7_keepDraft : GoodIn wsX7_meet (wsV RX7 88 RX7 yX7_keepDraft wsX7_keepDraft) := goodIn_app (goodIn_of _ (by decide +kernel)) ggX7_meet_X7_keepDraft
theorem dX7_meet_0 : decode cX7_meet 0 = .ok (.aload_n 0, 1) := by decide +kernel
theorem dX7_meet_1 : decode cX7_meet 1 = .ok (.iload_n 1, 1) := by decide +kernel
theorem dX7_meet_2 : decode cX7_meet 2 = .ok (.invokevirtual 92, 3) := by decide +kernel
theorem dX7_meet_5 : decode cX7_meet 5 = .ok (.aload_n 0, 1) := by decide +kernel
theorem dX7_meet_6 : decode cX7_meet 6 = .ok (.iload_n 2, 1) := by decide +kernel
theorem dX7_meet_7 : decode cX7_meet 7 = .ok (.invokevirtual 92, 3) := by decide +kernel
theorem dX7_meet_10 : decode cX7_meet 10 = .ok (.aload_n 0, 1) := by decide +kernel
theorem dX7_meet_11 : decode cX7_meet 11 = .ok (.iload_n 1, 1) := by decide +kernel
theorem dX7_meet_12 : decode cX7_meet 12 = .ok (.invokevirtual 157, 3) := by decide +kernel
theorem dX7_meet_15 : decode cX7_meet 15 = .ok (.aload_n 0, 1) := by decide +kernel
theorem dX7_meet_16 : decode cX7_meet 16 = .ok (.iload_n 2, 1) := by decide +kernel
theorem dX7_meet_17 : decode cX7_meet 17 = .ok (.invokevirtual 157, 3) := by decide +kernel
theorem dX7_meet_20 : decode cX7_meet 20 = .ok (.iload_n 3, 1) := by decide +kernel
theorem dX7_meet_21 : decode cX7_meet 21 = .ok (.ifCond .eq 7, 3) := by decide +kernel
theorem dX7_meet_24 : decode cX7_meet 24 = .ok (.iconst 1, 1) := by decide +kernel
theorem dX7_meet_25 : decode cX7_meet 25 = .ok (.goto 4, 3) := by decide +kernel
theorem dX7_meet_28 : decode cX7_meet 28 = .ok (.iconst 0, 1) := by decide +kernel
theorem dX7_meet_29 : decode cX7_meet 29 = .ok (.istore 4, 2) := by decide +kernel
theorem dX7_meet_31 : decode cX7_meet 31 = .ok (.aload_n 0, 1) := by decide +kernel
theorem dX7_meet_32 : decode cX7_meet 32 = .ok (.getfield 37, 3) := by decide +kernel
theorem dX7_meet_35 : decode cX7_meet 35 = .ok (.aload_n 0, 1) := by decide +kernel
theorem dX7_meet_36 : decode cX7_meet 36 = .ok (.getfield 19, 3) := by decide +kernel
theorem dX7_meet_39 : decode cX7_meet 39 = .ok (.iload_n 1, 1) := by decide +kernel
theorem dX7_meet_40 : decode cX7_meet 40 = .ok (.aaload, 1) := by decide +kernel
theorem dX7_meet_41 : decode cX7_meet 41 = .ok (.aload_n 0, 1) := by decide +kernel
theorem dX7_meet_42 : decode cX7_meet 42 = .ok (.getfield 19, 3) := by decide +kernel
theorem dX7_meet_45 : decode cX7_meet 45 = .ok (.iload_n 2, 1) := by decide +kernel
theorem dX7_meet_46 : decode cX7_meet 46 = .ok (.aaload, 1) := by decide +kernel
theorem dX7_meet_47 : decode cX7_meet 47 = .ok (.iload 4, 2) := by decide +kernel
theorem dX7_meet_49 : decode cX7_meet 49 = .ok (.invokevirtual 175, 3) := by decide +kernel
theorem dX7_meet_52 : decode cX7_meet 52 = .ok (.invokestatic 164, 3) := by decide +kernel
theorem dX7_meet_55 : decode cX7_meet 55 = .ok (.aload_n 0, 1) := by decide +kernel
theorem dX7_meet_56 : decode cX7_meet 56 = .ok (.getfield 37, 3) := by decide +kernel
theorem dX7_meet_59 : decode cX7_meet 59 = .ok (.aload_n 0, 1) := by decide +kernel
theorem dX7_meet_60 : decode cX7_meet 60 = .ok (.getfield 30, 3) := by decide +kernel
theorem dX7_meet_63 : decode cX7_meet 63 = .ok (.invokevirtual 168, 3) := by decide +kernel
theorem dX7_meet_66 : decode cX7_meet 66 = .ok (.invokestatic 172, 3) := by decide +kernel
theorem dX7_meet_69 : decode cX7_meet 69 = .ok (.aload_n 0, 1) := by decide +kernel
theorem dX7_meet_70 : decode cX7_meet 70 = .ok (.invokevirtual 88, 3) := by decide +kernel
theorem dX7_meet_73 : decode cX7_meet 73 = .ok (.ireturn, 1) := by decide +kernel
set_option maxRecDepth 20000 in
theorem ggX7_rule_X7_needRule : GoodIn wsX7_rule wsX7_needRule := goodIn_ca (goodIn_r _ [7, 8, 9, 10, 11, 6, 12, 13, 14, 15, 16, 17, 18] (by decide +kernel) (by decide +kernel)) (goodIn_sub (fun _ h => List.mem_cons_of_mem _ (List.mem_append_right _ h)) (by decide +kernel))
set_option maxRecDepth 20000 in
theorem gX7_rule_X7_needRule : GoodIn wsX7_rule (va_wsS RX7 179 yX7_needRule wsX7_needRule) := goodIn_app (goodIn_of _ (by decide +kernel)) ggX7_rule_X7_needRule
set_option maxRecDepth 20000 in
theorem ggX7_rule_X7_ruleState : GoodIn wsX7_rule wsX7_ruleState := goodIn_r _ [21] rfl (by decide +kernel)
set_option maxRecDepth 20000 in
theorem gX7_rule_X7_ruleState : GoodIn wsX7_rule (va_wsS RX7 185 yX7_ruleState wsX7_ruleState) := goodIn_app (goodIn_of _ (by decide +kernel)) ggX7_rule_X7_ruleState
set_option maxRecDepth 20000 in
theorem ggX7_rule_X1_begin : GoodIn wsX7_rule wsX1_begin := goodIn_r _ [26, 27, 28, 29, 30, 31, 32, 33, 34, 150, 151, 152, 153, 154, 155, 156, 157, 158, 159, 160, 161, 162] rfl (by decide +kernel)
set_option maxRecDepth 20000 in
theorem gX7_rule_X1_begin : GoodIn wsX7_rule (wsV RX7 76 RX1 yX1_begin wsX1_begin) := goodIn_app (goodIn_of _ (by decide +kernel)) ggX7_rule_X1_begin
set_option maxRecDepth 20000 in
theorem ggX7_rule_X7_isAsKnown : GoodIn wsX7_rule wsX7_isAsKnown := goodIn_r _ [37] rfl (by decide +kernel)
set_option maxRecDepth 20000 in
theorem gX7_rule_X7_isAsKnown : GoodIn wsX7_rule (va_wsS RX7 189 yX7_isAsKnown wsX7_isAsKnown) := goodIn_app (goodIn_of _ (by decide +kernel)) ggX7_rule_X7_isAsKnown
set_option maxRecDepth 20000 in
theorem ggX7_rule_X7_addCopy : GoodIn wsX7_rule wsX7_addCopy := goodIn_r _ [41, 3, 19, 20, 6, 21, 42, 43, 44, 25, 45, 33, 31, 46, 47, 48, 49, 142, 143, 144, 145, 146, 147, 148, 149, 150, 151, 152, 153, 154, 155, 156, 157, 158, 159, 160, 161, 162] rfl (by decide +kernel)
set_option maxRecDepth 20000 in
theorem gX7_rule_X7_addCopy : GoodIn wsX7_rule (wsV RX7 193 RX7 yX7_addCopy wsX7_addCopy) := goodIn_app (goodIn_of _ (by decide +kernel)) ggX7_rule_X7_addCopy
set_option maxRecDepth 20000 in
theorem ggX7_rule_X7_addRewriting : GoodIn wsX7_rule wsX7_addRewriting := goodIn_r _ [53, 3, 19, 20, 6, 21, 42, 43, 44, 25, 45, 33, 31, 46, 47, 48, 49, 142, 143, 144, 145, 146, 147, 148, 149, 150, 151, 152, 153, 154, 155, 156, 157, 158, 159, 160, 161, 162] rfl (by decide +kernel)
set_option maxRecDepth 20000 in
theorem gX7_rule_X7_addRewriting : GoodIn wsX7_rule (wsV RX7 197 RX7 yX7_addRewriting wsX7_addRewriting) := goodIn_app (goodIn_of _ (by decide +kernel)) ggX7_rule_X7_addRewriting
set_option maxRecDepth 20000 in
theorem ggX7_rule_X1_addEnd : GoodIn wsX7_rule wsX1_addEnd := goodIn_r _ [57, 31, 34, 150, 151, 152, 153, 154, 155, 156, 157, 158, 159, 160, 161, 162] rfl (by decide +kernel)
set_option maxRecDepth 20000 in
theorem gX7_rule_X1_addEnd : GoodIn wsX7_rule (wsV RX7 84 RX1 yX1_addEnd wsX1_addEnd) := goodIn_app (goodIn_of _ (by decide +kernel)) ggX7_rule_X1_addEnd
set_option maxRecDepth 20000 in
theorem ggX7_rule_X7_keepDraft : GoodIn wsX7_rule wsX7_keepDraft := goodIn_ca (goodIn_r _ [61, 1, 2, 62, 3, 63, 64, 65, 66, 25, 67, 68, 69, 70, 71, 72, 32, 73, 74, 75, 76, 31, 77, 78, 79, 80, 81, 82, 83, 33, 46, 84, 85, 6, 86, 87, 88, 89, 90, 91, 92, 93, 94, 95, 96, 34, 97, 98, 99, 100, 101, 47, 102, 103, 104, 105, 106, 107, 108, 109, 110, 28, 29, 30, 111, 112, 113, 114, 115, 116, 117, 118, 119, 120, 121, 122, 123, 124, 125, 126, 127, 128, 48, 49, 129, 130, 131, 132, 133, 134, 135, 136, 137, 138, 139, 140, 141, 142, 143, 144, 145, 146, 147, 148, 149, 163, 164, 165, 166, 167, 168, 150, 151, 152, 153, 154, 155, 156, 157, 158, 159, 160, 161, 162] (by decide +kernel) (by decide +kernel)) (goodIn_sub (fun _ h => List.mem_cons_of_mem _ (List.mem_append_left _ (List.mem_append_right _ h))) (by decide +kernel))
set_option maxRecDepth 20000 in
theorem gX7_rule_X7_keepDraft : GoodIn wsX7_rule (wsV RX7 88 RX7 yX7_keepDraft wsX7_keepDraft) := goodIn_app (goodIn_of _ (by decide +kernel)) ggX7_rule_X7_keepDraft
theorem dX7_rule_0 : decode cX7_rule 0 = .ok (.iload_n 1, 1) := by decide +kernel
theorem dX7_rule_1 : decode cX7_rule 1 = .ok (.iload_n 2, 1) := by decide +kernel
theorem dX7_rule_2 : decode cX7_rule 2 = .ok (.iload_n 3, 1) := by decide +kernel
theorem dX7_rule_3 : decode cX7_rule 3 = .ok (.iload 4, 2) := by decide +kernel
theorem dX7_rule_5 : decode cX7_rule 5 = .ok (.invokestatic 179, 3) := by decide +kernel
theorem dX7_rule_8 : decode cX7_rule 8 = .ok (.iload_n 2, 1) := by decide +kernel
theorem dX7_rule_9 : decode cX7_rule 9 = .ok (.bipush 8, 2) := by decide +kernel
theorem dX7_rule_11 : decode cX7_rule 11 = .ok (.if_icmp .ne 35, 3) := by decide +kernel
theorem dX7_rule_14 : decode cX7_rule 14 = .ok (.iload_n 3, 1) := by decide +kernel
theorem dX7_rule_15 : decode cX7_rule 15 = .ok (.iconst (-1), 1) := by decide +kernel
theorem dX7_rule_16 : decode cX7_rule 16 = .ok (.if_icmp .eq 8, 3) := by decide +kernel
theorem dX7_rule_19 : decode cX7_rule 19 = .ok (.iload_n 3, 1) := by decide +kernel
theorem dX7_rule_20 : decode cX7_rule 20 = .ok (.iload_n 1, 1) := by decide +kernel
theorem dX7_rule_21 : decode cX7_rule 21 = .ok (.if_icmp .ne 25, 3) := by decide +kernel
theorem dX7_rule_24 : decode cX7_rule 24 = .ok (.iload 4, 2) := by decide +kernel
theorem dX7_rule_26 : decode cX7_rule 26 = .ok (.iconst (-1), 1) := by decide +kernel
theorem dX7_rule_27 : decode cX7_rule 27 = .ok (.if_icmp .eq 9, 3) := by decide +kernel
theorem dX7_rule_30 : decode cX7_rule 30 = .ok (.iload 4, 2) := by decide +kernel
theorem dX7_rule_32 : decode cX7_rule 32 = .ok (.iload_n 1, 1) := by decide +kernel
theorem dX7_rule_33 : decode cX7_rule 33 = .ok (.if_icmp .ne 13, 3) := by decide +kernel
theorem dX7_rule_36 : decode cX7_rule 36 = .ok (.new 66, 3) := by decide +kernel
theorem dX7_rule_39 : decode cX7_rule 39 = .ok (.dup, 1) := by decide +kernel
theorem dX7_rule_40 : decode cX7_rule 40 = .ok (.ldc 183, 2) := by decide +kernel
theorem dX7_rule_42 : decode cX7_rule 42 = .ok (.invokespecial 70, 3) := by decide +kernel
theorem dX7_rule_45 : decode cX7_rule 45 = .ok (.athrow, 1) := by decide +kernel
theorem dX7_rule_46 : decode cX7_rule 46 = .ok (.aload_n 0, 1) := by decide +kernel
theorem dX7_rule_47 : decode cX7_rule 47 = .ok (.getfield 30, 3) := by decide +kernel
theorem dX7_rule_50 : decode cX7_rule 50 = .ok (.bipush 6, 2) := by decide +kernel
theorem dX7_rule_52 : decode cX7_rule 52 = .ok (.iload_n 3, 1) := by decide +kernel
theorem dX7_rule_53 : decode cX7_rule 53 = .ok (.iconst (-1), 1) := by decide +kernel
theorem dX7_rule_54 : decode cX7_rule 54 = .ok (.if_icmp .ne 7, 3) := by decide +kernel
theorem dX7_rule_57 : decode cX7_rule 57 = .ok (.iconst 1, 1) := by decide +kernel
theorem dX7_rule_58 : decode cX7_rule 58 = .ok (.goto 4, 3) := by decide +kernel
theorem dX7_rule_61 : decode cX7_rule 61 = .ok (.iconst 0, 1) := by decide +kernel
theorem dX7_rule_62 : decode cX7_rule 62 = .ok (.iconst 0, 1) := by decide +kernel
theorem dX7_rule_63 : decode cX7_rule 63 = .ok (.invokestatic 185, 3) := by decide +kernel
theorem dX7_rule_66 : decode cX7_rule 66 = .ok (.invokevirtual 76, 3) := by decide +kernel
theorem dX7_rule_69 : decode cX7_rule 69 = .ok (.iconst 0, 1) := by decide +kernel
theorem dX7_rule_70 : decode cX7_rule 70 = .ok (.istore 6, 2) := by decide +kernel
theorem dX7_rule_72 : decode cX7_rule 72 = .ok (.iload 6, 2) := by decide +kernel
theorem dX7_rule_74 : decode cX7_rule 74 = .ok (.iconst 3, 1) := by decide +kernel
theorem dX7_rule_75 : decode cX7_rule 75 = .ok (.if_icmp .ge 136, 3) := by decide +kernel
theorem dX7_rule_78 : decode cX7_rule 78 = .ok (.iconst 0, 1) := by decide +kernel
theorem dX7_rule_79 : decode cX7_rule 79 = .ok (.istore 7, 2) := by decide +kernel
theorem dX7_rule_81 : decode cX7_rule 81 = .ok (.iload 7, 2) := by decide +kernel
theorem dX7_rule_83 : decode cX7_rule 83 = .ok (.bipush 8, 2) := by decide +kernel
theorem dX7_rule_85 : decode cX7_rule 85 = .ok (.if_icmp .ge 88, 3) := by decide +kernel
theorem dX7_rule_88 : decode cX7_rule 88 = .ok (.iload 7, 2) := by decide +kernel
theorem dX7_rule_90 : decode cX7_rule 90 = .ok (.iload 6, 2) := by decide +kernel
theorem dX7_rule_92 : decode cX7_rule 92 = .ok (.iload 4, 2) := by decide +kernel
theorem dX7_rule_94 : decode cX7_rule 94 = .ok (.invokestatic 189, 3) := by decide +kernel
theorem dX7_rule_97 : decode cX7_rule 97 = .ok (.ifCond .eq 70, 3) := by decide +kernel
theorem dX7_rule_100 : decode cX7_rule 100 = .ok (.iload_n 3, 1) := by decide +kernel
theorem dX7_rule_101 : decode cX7_rule 101 = .ok (.iconst (-1), 1) := by decide +kernel
theorem dX7_rule_102 : decode cX7_rule 102 = .ok (.if_icmp .eq 9, 3) := by decide +kernel
theorem dX7_rule_105 : decode cX7_rule 105 = .ok (.iload 7, 2) := by decide +kernel
theorem dX7_rule_107 : decode cX7_rule 107 = .ok (.iload_n 3, 1) := by decide +kernel
theorem dX7_rule_108 : decode cX7_rule 108 = .ok (.if_icmp .ne 7, 3) := by decide +kernel
theorem dX7_rule_111 : decode cX7_rule 111 = .ok (.iconst 1, 1) := by decide +kernel
theorem dX7_rule_112 : decode cX7_rule 112 = .ok (.goto 4, 3) := by decide +kernel
theorem dX7_rule_115 : decode cX7_rule 115 = .ok (.iconst 0, 1) := by decide +kernel
theorem dX7_rule_116 : decode cX7_rule 116 = .ok (.istore 8, 2) := by decide +kernel
theorem dX7_rule_118 : decode cX7_rule 118 = .ok (.aload_n 0, 1) := by decide +kernel
theorem dX7_rule_119 : decode cX7_rule 119 = .ok (.iconst 0, 1) := by decide +kernel
theorem dX7_rule_120 : decode cX7_rule 120 = .ok (.iload 6, 2) := by decide +kernel
theorem dX7_rule_122 : decode cX7_rule 122 = .ok (.iload 7, 2) := by decide +kernel
theorem dX7_rule_124 : decode cX7_rule 124 = .ok (.iload 8, 2) := by decide +kernel
theorem dX7_rule_126 : decode cX7_rule 126 = .ok (.invokevirtual 193, 3) := by decide +kernel
theorem dX7_rule_129 : decode cX7_rule 129 = .ok (.iload 7, 2) := by decide +kernel
theorem dX7_rule_131 : decode cX7_rule 131 = .ok (.iload_n 1, 1) := by decide +kernel
theorem dX7_rule_132 : decode cX7_rule 132 = .ok (.if_icmp .eq 17, 3) := by decide +kernel
theorem dX7_rule_135 : decode cX7_rule 135 = .ok (.aload_n 0, 1) := by decide +kernel
theorem dX7_rule_136 : decode cX7_rule 136 = .ok (.iconst 1, 1) := by decide +kernel
theorem dX7_rule_137 : decode cX7_rule 137 = .ok (.iload 6, 2) := by decide +kernel
theorem dX7_rule_139 : decode cX7_rule 139 = .ok (.iload 7, 2) := by decide +kernel
theorem dX7_rule_141 : decode cX7_rule 141 = .ok (.iload 8, 2) := by decide +kernel
theorem dX7_rule_143 : decode cX7_rule 143 = .ok (.invokevirtual 193, 3) := by decide +kernel
theorem dX7_rule_146 : decode cX7_rule 146 = .ok (.goto 21, 3) := by decide +kernel
theorem dX7_rule_149 : decode cX7_rule 149 = .ok (.aload_n 0, 1) := by decide +kernel
theorem dX7_rule_150 : decode cX7_rule 150 = .ok (.iconst 1, 1) := by decide +kernel
theorem dX7_rule_151 : decode cX7_rule 151 = .ok (.iload 6, 2) := by decide +kernel
theorem dX7_rule_153 : decode cX7_rule 153 = .ok (.invokestatic 185, 3) := by decide +kernel
theorem dX7_rule_156 : decode cX7_rule 156 = .ok (.iload_n 1, 1) := by decide +kernel
theorem dX7_rule_157 : decode cX7_rule 157 = .ok (.iload_n 2, 1) := by decide +kernel
theorem dX7_rule_158 : decode cX7_rule 158 = .ok (.iload 4, 2) := by decide +kernel
theorem dX7_rule_160 : decode cX7_rule 160 = .ok (.iload 8, 2) := by decide +kernel
theorem dX7_rule_162 : decode cX7_rule 162 = .ok (.iload 5, 2) := by decide +kernel
theorem dX7_rule_164 : decode cX7_rule 164 = .ok (.invokevirtual 197, 3) := by decide +kernel
theorem dX7_rule_167 : decode cX7_rule 167 = .ok (.iinc 7 1, 3) := by decide +kernel
theorem dX7_rule_170 : decode cX7_rule 170 = .ok (.goto (-89), 3) := by decide +kernel
theorem dX7_rule_173 : decode cX7_rule 173 = .ok (.iload 6, 2) := by decide +kernel
theorem dX7_rule_175 : decode cX7_rule 175 = .ok (.iconst 1, 1) := by decide +kernel
theorem dX7_rule_176 : decode cX7_rule 176 = .ok (.if_icmp .eq 29, 3) := by decide +kernel
theorem dX7_rule_179 : decode cX7_rule 179 = .ok (.aload_n 0, 1) := by decide +kernel
theorem dX7_rule_180 : decode cX7_rule 180 = .ok (.getfield 30, 3) := by decide +kernel
theorem dX7_rule_183 : decode cX7_rule 183 = .ok (.iconst 0, 1) := by decide +kernel
theorem dX7_rule_184 : decode cX7_rule 184 = .ok (.iload 6, 2) := by decide +kernel
theorem dX7_rule_186 : decode cX7_rule 186 = .ok (.invokestatic 185, 3) := by decide +kernel
theorem dX7_rule_189 : decode cX7_rule 189 = .ok (.invokevirtual 84, 3) := by decide +kernel
theorem dX7_rule_192 : decode cX7_rule 192 = .ok (.aload_n 0, 1) := by decide +kernel
theorem dX7_rule_193 : decode cX7_rule 193 = .ok (.getfield 30, 3) := by decide +kernel
theorem dX7_rule_196 : decode cX7_rule 196 = .ok (.iconst 1, 1) := by decide +kernel
theorem dX7_rule_197 : decode cX7_rule 197 = .ok (.iload 6, 2) := by decide +kernel
theorem dX7_rule_199 : decode cX7_rule 199 = .ok (.invokestatic 185, 3) := by decide +kernel
theorem dX7_rule_202 : decode cX7_rule 202 = .ok (.invokevirtual 84, 3) := by decide +kernel
theorem dX7_rule_205 : decode cX7_rule 205 = .ok (.iinc 6 1, 3) := by decide +kernel
theorem dX7_rule_208 : decode cX7_rule 208 = .ok (.goto (-136), 3) := by decide +kernel
theorem dX7_rule_211 : decode cX7_rule 211 = .ok (.aload_n 0, 1) := by decide +kernel
theorem dX7_rule_212 : decode cX7_rule 212 = .ok (.invokevirtual 88, 3) := by decide +kernel
theorem dX7_rule_215 : decode cX7_rule 215 = .ok (.ireturn, 1) := by decide +kernel
set_option maxRecDepth 20000 in
theorem ggX7_size_X7_needMachine : GoodIn wsX7_size wsX7_needMachine := goodIn_ca (goodIn_r _ [9, 10, 11, 12, 13, 14, 15, 16, 17, 18, 19, 20] (by decide +kernel) (by decide +kernel)) (goodIn_sub (fun _ h => List.mem_cons_of_mem _ (List.mem_append_right _ h)) (by decide +kernel))
set_option maxRecDepth 20000 in
theorem gX7_size_X7_needMachine : GoodIn wsX7_size (wsV RX7 92 RX7 yX7_needMachine wsX7_needMachine) := goodIn_app (goodIn_of _ (by decide +kernel)) ggX7_size_X7_needMachine
theorem dX7_size_0 : decode cX7_size 0 = .ok (.aload_n 0, 1) := by decide +kernel
theorem dX7_size_1 : decode cX7_size 1 = .ok (.iload_n 1, 1) := by decide +kernel
theorem dX7_size_2 : decode cX7_size 2 = .ok (.invokevirtual 92, 3) := by decide +kernel
theorem dX7_size_5 : decode cX7_size 5 = .ok (.sipush 1000, 3) := by decide +kernel
theorem dX7_size_8 : decode cX7_size 8 = .ok (.aload_n 0, 1) := by decide +kernel
theorem dX7_size_9 : decode cX7_size 9 = .ok (.getfield 19, 3) := by decide +kernel
theorem dX7_size_12 : decode cX7_size 12 = .ok (.iload_n 1, 1) := by decide +kernel
theorem dX7_size_13 : decode cX7_size 13 = .ok (.aaload, 1) := by decide +kernel
theorem dX7_size_14 : decode cX7_size 14 = .ok (.getfield 95, 3) := by decide +kernel
theorem dX7_size_17 : decode cX7_size 17 = .ok (.imul, 1) := by decide +kernel
theorem dX7_size_18 : decode cX7_size 18 = .ok (.aload_n 0, 1) := by decide +kernel
theorem dX7_size_19 : decode cX7_size 19 = .ok (.getfield 19, 3) := by decide +kernel
theorem dX7_size_22 : decode cX7_size 22 = .ok (.iload_n 1, 1) := by decide +kernel
theorem dX7_size_23 : decode cX7_size 23 = .ok (.aaload, 1) := by decide +kernel
theorem dX7_size_24 : decode cX7_size 24 = .ok (.getfield 115, 3) := by decide +kernel
theorem dX7_size_27 : decode cX7_size 27 = .ok (.getfield 119, 3) := by decide +kernel
theorem dX7_size_30 : decode cX7_size 30 = .ok (.iadd, 1) := by decide +kernel
theorem dX7_size_31 : decode cX7_size 31 = .ok (.ireturn, 1) := by decide +kernel
set_option maxRecDepth 20000 in
theorem ggX7_isEnd_X7_needMachine : GoodIn wsX7_isEnd wsX7_needMachine := goodIn_ca (goodIn_r _ [10, 1, 2, 11, 15, 16, 17, 18, 19, 20, 21, 22] (by decide +kernel) (by decide +kernel)) (goodIn_sub (fun _ h => List.mem_cons_of_mem _ (List.mem_append_right _ h)) (by decide +kernel))
set_option maxRecDepth 20000 in
theorem gX7_isEnd_X7_needMachine : GoodIn wsX7_isEnd (wsV RX7 92 RX7 yX7_needMachine wsX7_needMachine) := goodIn_app (goodIn_of _ (by decide +kernel)) ggX7_isEnd_X7_needMachine
set_option maxRecDepth 20000 in
theorem ggX7_isEnd_X7_holds : GoodIn wsX7_isEnd wsX7_holds := goodIn_r _ [14] rfl (by decide +kernel)
set_option maxRecDepth 20000 in
theorem gX7_isEnd_X7_holds : GoodIn wsX7_isEnd (va_wsS RX7 209 yX7_holds wsX7_holds) := goodIn_app (goodIn_of _ (by decide +kernel)) ggX7_isEnd_X7_holds
theorem dX7_isEnd_0 : decode cX7_isEnd 0 = .ok (.aload_n 0, 1) := by decide +kernel
theorem dX7_isEnd_1 : decode cX7_isEnd 1 = .ok (.iload_n 1, 1) := by decide +kernel
theorem dX7_isEnd_2 : decode cX7_isEnd 2 = .ok (.invokevirtual 92, 3) := by decide +kernel
theorem dX7_isEnd_5 : decode cX7_isEnd 5 = .ok (.iload_n 2, 1) := by decide +kernel
theorem dX7_isEnd_6 : decode cX7_isEnd 6 = .ok (.ifCond .lt 16, 3) := by decide +kernel
theorem dX7_isEnd_9 : decode cX7_isEnd 9 = .ok (.iload_n 2, 1) := by decide +kernel
theorem dX7_isEnd_10 : decode cX7_isEnd 10 = .ok (.aload_n 0, 1) := by decide +kernel
theorem dX7_isEnd_11 : decode cX7_isEnd 11 = .ok (.getfield 19, 3) := by decide +kernel
theorem dX7_isEnd_14 : decode cX7_isEnd 14 = .ok (.iload_n 1, 1) := by decide +kernel
theorem dX7_isEnd_15 : decode cX7_isEnd 15 = .ok (.aaload, 1) := by decide +kernel
theorem dX7_isEnd_16 : decode cX7_isEnd 16 = .ok (.getfield 95, 3) := by decide +kernel
theorem dX7_isEnd_19 : decode cX7_isEnd 19 = .ok (.if_icmp .lt 13, 3) := by decide +kernel
theorem dX7_isEnd_22 : decode cX7_isEnd 22 = .ok (.new 201, 3) := by decide +kernel
theorem dX7_isEnd_25 : decode cX7_isEnd 25 = .ok (.dup, 1) := by decide +kernel
theorem dX7_isEnd_26 : decode cX7_isEnd 26 = .ok (.ldc 203, 2) := by decide +kernel
theorem dX7_isEnd_28 : decode cX7_isEnd 28 = .ok (.invokespecial 205, 3) := by decide +kernel
theorem dX7_isEnd_31 : decode cX7_isEnd 31 = .ok (.athrow, 1) := by decide +kernel
theorem dX7_isEnd_32 : decode cX7_isEnd 32 = .ok (.aload_n 0, 1) := by decide +kernel
theorem dX7_isEnd_33 : decode cX7_isEnd 33 = .ok (.getfield 19, 3) := by decide +kernel
theorem dX7_isEnd_36 : decode cX7_isEnd 36 = .ok (.iload_n 1, 1) := by decide +kernel
theorem dX7_isEnd_37 : decode cX7_isEnd 37 = .ok (.aaload, 1) := by decide +kernel
theorem dX7_isEnd_38 : decode cX7_isEnd 38 = .ok (.getfield 206, 3) := by decide +kernel
theorem dX7_isEnd_41 : decode cX7_isEnd 41 = .ok (.iload_n 2, 1) := by decide +kernel
theorem dX7_isEnd_42 : decode cX7_isEnd 42 = .ok (.invokestatic 209, 3) := by decide +kernel
theorem dX7_isEnd_45 : decode cX7_isEnd 45 = .ok (.ireturn, 1) := by decide +kernel
set_option maxRecDepth 20000 in
theorem ggX7_arc_X7_needMachine : GoodIn wsX7_arc wsX7_needMachine := goodIn_ca (goodIn_r _ [14, 1, 2, 15, 28, 29, 30, 31, 32, 33, 34, 35] (by decide +kernel) (by decide +kernel)) (goodIn_sub (fun _ h => List.mem_cons_of_mem _ (List.mem_append_left _ (List.mem_append_right _ h))) (by decide +kernel))
set_option maxRecDepth 20000 in
theorem gX7_arc_X7_needMachine : GoodIn wsX7_arc (wsV RX7 92 RX7 yX7_needMachine wsX7_needMachine) := goodIn_app (goodIn_of _ (by decide +kernel)) ggX7_arc_X7_needMachine
set_option maxRecDepth 20000 in
theorem ggX7_arc_X7_fromOf : GoodIn wsX7_arc wsX7_fromOf := goodIn_r _ [18] rfl (by decide +kernel)
set_option maxRecDepth 20000 in
theorem gX7_arc_X7_fromOf : GoodIn wsX7_arc (va_wsS RX7 125 yX7_fromOf wsX7_fromOf) := goodIn_app (goodIn_of _ (by decide +kernel)) ggX7_arc_X7_fromOf
set_option maxRecDepth 20000 in
theorem ggX7_arc_X7_upperOf : GoodIn wsX7_arc wsX7_upperOf := goodIn_r _ [21] rfl (by decide +kernel)
set_option maxRecDepth 20000 in
theorem gX7_arc_X7_upperOf : GoodIn wsX7_arc (va_wsS RX7 132 yX7_upperOf wsX7_upperOf) := goodIn_app (goodIn_of _ (by decide +kernel)) ggX7_arc_X7_upperOf
set_option maxRecDepth 20000 in
theorem ggX7_arc_X7_lowerOf : GoodIn wsX7_arc wsX7_lowerOf := goodIn_r _ [24] rfl (by decide +kernel)
set_option maxRecDepth 20000 in
theorem gX7_arc_X7_lowerOf : GoodIn wsX7_arc (va_wsS RX7 129 yX7_lowerOf wsX7_lowerOf) := goodIn_app (goodIn_of _ (by decide +kernel)) ggX7_arc_X7_lowerOf
set_option maxRecDepth 20000 in
theorem ggX7_arc_X7_toOf : GoodIn wsX7_arc wsX7_toOf := goodIn_r _ [27] rfl (by decide +kernel)
set_option maxRecDepth 20000 in
theorem gX7_arc_X7_toOf : GoodIn wsX7_arc (va_wsS RX7 138 yX7_toOf wsX7_toOf) := goodIn_app (goodIn_of _ (by decide +kernel)) ggX7_arc_X7_toOf
theorem dX7_arc_0 : decode cX7_arc 0 = .ok (.aload_n 0, 1) := by decide +kernel
theorem dX7_arc_1 : decode cX7_arc 1 = .ok (.iload_n 1, 1) := by decide +kernel
theorem dX7_arc_2 : decode cX7_arc 2 = .ok (.invokevirtual 92, 3) := by decide +kernel
theorem dX7_arc_5 : decode cX7_arc 5 = .ok (.aload_n 0, 1) := by decide +kernel
theorem dX7_arc_6 : decode cX7_arc 6 = .ok (.getfield 19, 3) := by decide +kernel
theorem dX7_arc_9 : decode cX7_arc 9 = .ok (.iload_n 1, 1) := by decide +kernel
theorem dX7_arc_10 : decode cX7_arc 10 = .ok (.aaload, 1) := by decide +kernel
theorem dX7_arc_11 : decode cX7_arc 11 = .ok (.getfield 115, 3) := by decide +kernel
theorem dX7_arc_14 : decode cX7_arc 14 = .ok (.astore 4, 2) := by decide +kernel
theorem dX7_arc_16 : decode cX7_arc 16 = .ok (.iload_n 2, 1) := by decide +kernel
theorem dX7_arc_17 : decode cX7_arc 17 = .ok (.ifCond .lt 12, 3) := by decide +kernel
theorem dX7_arc_20 : decode cX7_arc 20 = .ok (.iload_n 2, 1) := by decide +kernel
theorem dX7_arc_21 : decode cX7_arc 21 = .ok (.aload 4, 2) := by decide +kernel
theorem dX7_arc_23 : decode cX7_arc 23 = .ok (.getfield 119, 3) := by decide +kernel
theorem dX7_arc_26 : decode cX7_arc 26 = .ok (.if_icmp .lt 13, 3) := by decide +kernel
theorem dX7_arc_29 : decode cX7_arc 29 = .ok (.new 201, 3) := by decide +kernel
theorem dX7_arc_32 : decode cX7_arc 32 = .ok (.dup, 1) := by decide +kernel
theorem dX7_arc_33 : decode cX7_arc 33 = .ok (.ldc 213, 2) := by decide +kernel
theorem dX7_arc_35 : decode cX7_arc 35 = .ok (.invokespecial 205, 3) := by decide +kernel
theorem dX7_arc_38 : decode cX7_arc 38 = .ok (.athrow, 1) := by decide +kernel
theorem dX7_arc_39 : decode cX7_arc 39 = .ok (.iload_n 3, 1) := by decide +kernel
theorem dX7_arc_40 : decode cX7_arc 40 = .ok (.tableswitch 88 0 4 #[36, 47, 58, 69, 77], 36) := by decide +kernel
theorem dX7_arc_76 : decode cX7_arc 76 = .ok (.aload 4, 2) := by decide +kernel
theorem dX7_arc_78 : decode cX7_arc 78 = .ok (.getfield 122, 3) := by decide +kernel
theorem dX7_arc_81 : decode cX7_arc 81 = .ok (.iload_n 2, 1) := by decide +kernel
theorem dX7_arc_82 : decode cX7_arc 82 = .ok (.iaload, 1) := by decide +kernel
theorem dX7_arc_83 : decode cX7_arc 83 = .ok (.invokestatic 125, 3) := by decide +kernel
theorem dX7_arc_86 : decode cX7_arc 86 = .ok (.ireturn, 1) := by decide +kernel
theorem dX7_arc_87 : decode cX7_arc 87 = .ok (.aload 4, 2) := by decide +kernel
theorem dX7_arc_89 : decode cX7_arc 89 = .ok (.getfield 122, 3) := by decide +kernel
theorem dX7_arc_92 : decode cX7_arc 92 = .ok (.iload_n 2, 1) := by decide +kernel
theorem dX7_arc_93 : decode cX7_arc 93 = .ok (.iaload, 1) := by decide +kernel
theorem dX7_arc_94 : decode cX7_arc 94 = .ok (.invokestatic 132, 3) := by decide +kernel
theorem dX7_arc_97 : decode cX7_arc 97 = .ok (.ireturn, 1) := by decide +kernel
theorem dX7_arc_98 : decode cX7_arc 98 = .ok (.aload 4, 2) := by decide +kernel
theorem dX7_arc_100 : decode cX7_arc 100 = .ok (.getfield 122, 3) := by decide +kernel
theorem dX7_arc_103 : decode cX7_arc 103 = .ok (.iload_n 2, 1) := by decide +kernel
theorem dX7_arc_104 : decode cX7_arc 104 = .ok (.iaload, 1) := by decide +kernel
theorem dX7_arc_105 : decode cX7_arc 105 = .ok (.invokestatic 129, 3) := by decide +kernel
theorem dX7_arc_108 : decode cX7_arc 108 = .ok (.ireturn, 1) := by decide +kernel
theorem dX7_arc_109 : decode cX7_arc 109 = .ok (.aload 4, 2) := by decide +kernel
theorem dX7_arc_111 : decode cX7_arc 111 = .ok (.getfield 135, 3) := by decide +kernel
theorem dX7_arc_114 : decode cX7_arc 114 = .ok (.iload_n 2, 1) := by decide +kernel
theorem dX7_arc_115 : decode cX7_arc 115 = .ok (.iaload, 1) := by decide +kernel
theorem dX7_arc_116 : decode cX7_arc 116 = .ok (.ireturn, 1) := by decide +kernel
theorem dX7_arc_117 : decode cX7_arc 117 = .ok (.aload 4, 2) := by decide +kernel
theorem dX7_arc_119 : decode cX7_arc 119 = .ok (.getfield 122, 3) := by decide +kernel
theorem dX7_arc_122 : decode cX7_arc 122 = .ok (.iload_n 2, 1) := by decide +kernel
theorem dX7_arc_123 : decode cX7_arc 123 = .ok (.iaload, 1) := by decide +kernel
theorem dX7_arc_124 : decode cX7_arc 124 = .ok (.invokestatic 138, 3) := by decide +kernel
theorem dX7_arc_127 : decode cX7_arc 127 = .ok (.ireturn, 1) := by decide +kernel
theorem dX7_arc_128 : decode cX7_arc 128 = .ok (.new 59, 3) := by decide +kernel
theorem dX7_arc_131 : decode cX7_arc 131 = .ok (.dup, 1) := by decide +kernel
theorem dX7_arc_132 : decode cX7_arc 132 = .ok (.ldc 215, 2) := by decide +kernel
theorem dX7_arc_134 : decode cX7_arc 134 = .ok (.invokespecial 63, 3) := by decide +kernel
theorem dX7_arc_137 : decode cX7_arc 137 = .ok (.athrow, 1) := by decide +kernel
set_option maxRecDepth 20000 in
theorem ggX7_isPlain_X7_needMachine : GoodIn wsX7_isPlain wsX7_needMachine := goodIn_ca (goodIn_r _ [6, 7, 8, 9, 23, 24, 25, 26, 27, 28, 29, 30] (by decide +kernel) (by decide +kernel)) (goodIn_sub (fun _ h => List.mem_cons_of_mem _ (List.mem_append_right _ h)) (by decide +kernel))
set_option maxRecDepth 20000 in
theorem gX7_isPlain_X7_needMachine : GoodIn wsX7_isPlain (wsV RX7 92 RX7 yX7_needMachine wsX7_needMachine) := goodIn_app (goodIn_of _ (by decide +kernel)) ggX7_isPlain_X7_needMachine
set_option maxRecDepth 20000 in
theorem ggX7_isPlain_X3_hasPlainArcsAlone : GoodIn wsX7_isPlain wsX3_hasPlainArcsAlone := goodIn_r _ [14, 15, 16, 17, 18, 19, 5, 20, 21, 22, 31, 32, 33, 34, 35, 36] rfl (by decide +kernel)
set_option maxRecDepth 20000 in
theorem gX7_isPlain_X3_hasPlainArcsAlone : GoodIn wsX7_isPlain (wsV RX7 217 RX3 yX3_hasPlainArcsAlone wsX3_hasPlainArcsAlone) := goodIn_app (goodIn_of _ (by decide +kernel)) ggX7_isPlain_X3_hasPlainArcsAlone
theorem dX7_isPlain_0 : decode cX7_isPlain 0 = .ok (.aload_n 0, 1) := by decide +kernel
theorem dX7_isPlain_1 : decode cX7_isPlain 1 = .ok (.iload_n 1, 1) := by decide +kernel
theorem dX7_isPlain_2 : decode cX7_isPlain 2 = .ok (.invokevirtual 92, 3) := by decide +kernel
theorem dX7_isPlain_5 : decode cX7_isPlain 5 = .ok (.aload_n 0, 1) := by decide +kernel
theorem dX7_isPlain_6 : decode cX7_isPlain 6 = .ok (.getfield 19, 3) := by decide +kernel
theorem dX7_isPlain_9 : decode cX7_isPlain 9 = .ok (.iload_n 1, 1) := by decide +kernel
theorem dX7_isPlain_10 : decode cX7_isPlain 10 = .ok (.aaload, 1) := by decide +kernel
theorem dX7_isPlain_11 : decode cX7_isPlain 11 = .ok (.invokevirtual 217, 3) := by decide +kernel
theorem dX7_isPlain_14 : decode cX7_isPlain 14 = .ok (.ireturn, 1) := by decide +kernel
set_option maxRecDepth 20000 in
theorem ggX7_answer_X7_needMachine : GoodIn wsX7_answer wsX7_needMachine := goodIn_ca (goodIn_r _ [8, 9, 10, 11, 148, 149, 150, 151, 152, 153, 154, 155] (by decide +kernel) (by decide +kernel)) (goodIn_sub (fun _ h => List.mem_cons_of_mem _ (List.mem_append_right _ h)) (by decide +kernel))
set_option maxRecDepth 20000 in
theorem gX7_answer_X7_needMachine : GoodIn wsX7_answer (wsV RX7 92 RX7 yX7_needMachine wsX7_needMachine) := goodIn_app (goodIn_of _ (by decide +kernel)) ggX7_answer_X7_needMachine
set_option maxRecDepth 20000 in
theorem ggX7_answer_X7_needPlace : GoodIn wsX7_answer wsX7_needPlace := goodIn_ca (goodIn_r _ [14, 9, 10] (by decide +kernel) (by decide +kernel)) (goodIn_sub (fun _ h => List.mem_cons_of_mem _ (List.mem_append_right _ h)) (by decide +kernel))
set_option maxRecDepth 20000 in
theorem gX7_answer_X7_needPlace : GoodIn wsX7_answer (va_wsS RX7 221 yX7_needPlace wsX7_needPlace) := goodIn_app (goodIn_of _ (by decide +kernel)) ggX7_answer_X7_needPlace
set_option maxRecDepth 20000 in
theorem ggX7_answer_X7_lookUp : GoodIn wsX7_answer wsX7_lookUp := goodIn_r _ [18, 3, 19, 20, 21, 22, 23, 24, 25, 26, 27, 28, 29, 30, 31, 32, 33, 34, 35, 36, 37, 38, 39, 40, 41, 42, 43, 44, 45, 46, 47, 48, 49, 50, 51, 7, 52, 53, 54, 55, 56, 57, 58, 59, 60, 61, 62, 63, 64, 65, 66, 67, 68, 69, 70, 71, 72, 73, 74, 75, 76, 77, 78, 79, 80, 81, 82, 83, 84, 85, 86, 87, 88, 89, 90, 91, 92, 93, 94, 95, 96, 148, 149, 150, 151, 152, 153, 154, 155, 156, 157, 158, 159, 160, 161, 162, 163, 164, 165, 166, 167, 168, 169, 170, 171, 172, 173, 174, 175] rfl (by decide +kernel)
set_option maxRecDepth 20000 in
theorem gX7_answer_X7_lookUp : GoodIn wsX7_answer (wsV RX7 226 RX7 yX7_lookUp wsX7_lookUp) := goodIn_app (goodIn_of _ (by decide +kernel)) ggX7_answer_X7_lookUp
set_option maxRecDepth 20000 in
theorem ggX7_answer_X4_find : GoodIn wsX7_answer wsX4_find := goodIn_r _ [100, 101, 39, 65, 66, 102, 103, 104, 105, 106, 107, 25, 108, 109, 110, 111, 112, 32, 27, 64, 113, 114, 115, 116, 63, 44, 45, 49, 50, 67, 7, 68, 117, 118, 119, 120, 47, 69, 70, 71, 93, 94, 95, 96, 38, 48, 80, 121, 122, 123, 124, 125, 126, 127, 128, 129, 130, 131, 132, 76, 77, 78, 79, 33, 85, 86, 87, 88, 133, 134, 135, 136, 137, 138, 139, 140, 141, 142, 143, 156, 157, 158, 159, 160, 161, 162, 163, 164, 165, 166, 167, 168, 169, 170, 171, 172, 173, 174, 175] rfl (by decide +kernel)
set_option maxRecDepth 20000 in
theorem gX7_answer_X4_find : GoodIn wsX7_answer (wsV RX7 230 RX4 yX4_find wsX4_find) := goodIn_app (goodIn_of _ (by decide +kernel)) ggX7_answer_X4_find
set_option maxRecDepth 20000 in
theorem ggX7_answer_X4_foundLetter : GoodIn wsX7_answer wsX4_foundLetter := goodIn_r _ [147, 39, 104, 156, 157, 158, 159, 160, 161, 162, 163, 164, 165, 166, 167, 168, 169] rfl (by decide +kernel)
set_option maxRecDepth 20000 in
theorem gX7_answer_X4_foundLetter : GoodIn wsX7_answer (wsV RX7 234 RX4 yX4_foundLetter wsX4_foundLetter) := goodIn_app (goodIn_of _ (by decide +kernel)) ggX7_answer_X4_foundLetter
theorem dX7_answer_0 : decode cX7_answer 0 = .ok (.aload_n 0, 1) := by decide +kernel
theorem dX7_answer_1 : decode cX7_answer 1 = .ok (.iload_n 1, 1) := by decide +kernel
theorem dX7_answer_2 : decode cX7_answer 2 = .ok (.invokevirtual 92, 3) := by decide +kernel
theorem dX7_answer_5 : decode cX7_answer 5 = .ok (.iload 4, 2) := by decide +kernel
theorem dX7_answer_7 : decode cX7_answer 7 = .ok (.invokestatic 221, 3) := by decide +kernel
theorem dX7_answer_10 : decode cX7_answer 10 = .ok (.iload_n 3, 1) := by decide +kernel
theorem dX7_answer_11 : decode cX7_answer 11 = .ok (.ifCond .lt 9, 3) := by decide +kernel
theorem dX7_answer_14 : decode cX7_answer 14 = .ok (.iload_n 3, 1) := by decide +kernel
theorem dX7_answer_15 : decode cX7_answer 15 = .ok (.bipush 20, 2) := by decide +kernel
theorem dX7_answer_17 : decode cX7_answer 17 = .ok (.if_icmp .lt 13, 3) := by decide +kernel
theorem dX7_answer_20 : decode cX7_answer 20 = .ok (.new 59, 3) := by decide +kernel
theorem dX7_answer_23 : decode cX7_answer 23 = .ok (.dup, 1) := by decide +kernel
theorem dX7_answer_24 : decode cX7_answer 24 = .ok (.ldc 224, 2) := by decide +kernel
theorem dX7_answer_26 : decode cX7_answer 26 = .ok (.invokespecial 63, 3) := by decide +kernel
theorem dX7_answer_29 : decode cX7_answer 29 = .ok (.athrow, 1) := by decide +kernel
theorem dX7_answer_30 : decode cX7_answer 30 = .ok (.aload_n 0, 1) := by decide +kernel
theorem dX7_answer_31 : decode cX7_answer 31 = .ok (.iload_n 1, 1) := by decide +kernel
theorem dX7_answer_32 : decode cX7_answer 32 = .ok (.iload_n 2, 1) := by decide +kernel
theorem dX7_answer_33 : decode cX7_answer 33 = .ok (.invokevirtual 226, 3) := by decide +kernel
theorem dX7_answer_36 : decode cX7_answer 36 = .ok (.aload_n 0, 1) := by decide +kernel
theorem dX7_answer_37 : decode cX7_answer 37 = .ok (.getfield 44, 3) := by decide +kernel
theorem dX7_answer_40 : decode cX7_answer 40 = .ok (.iload_n 3, 1) := by decide +kernel
theorem dX7_answer_41 : decode cX7_answer 41 = .ok (.iconst 1, 1) := by decide +kernel
theorem dX7_answer_42 : decode cX7_answer 42 = .ok (.iadd, 1) := by decide +kernel
theorem dX7_answer_43 : decode cX7_answer 43 = .ok (.iconst 0, 1) := by decide +kernel
theorem dX7_answer_44 : decode cX7_answer 44 = .ok (.invokevirtual 230, 3) := by decide +kernel
theorem dX7_answer_47 : decode cX7_answer 47 = .ok (.iload_n 3, 1) := by decide +kernel
theorem dX7_answer_48 : decode cX7_answer 48 = .ok (.if_icmp .gt 5, 3) := by decide +kernel
theorem dX7_answer_51 : decode cX7_answer 51 = .ok (.iconst (-1), 1) := by decide +kernel
theorem dX7_answer_52 : decode cX7_answer 52 = .ok (.ireturn, 1) := by decide +kernel
theorem dX7_answer_53 : decode cX7_answer 53 = .ok (.aload_n 0, 1) := by decide +kernel
theorem dX7_answer_54 : decode cX7_answer 54 = .ok (.getfield 44, 3) := by decide +kernel
theorem dX7_answer_57 : decode cX7_answer 57 = .ok (.iload 4, 2) := by decide +kernel
theorem dX7_answer_59 : decode cX7_answer 59 = .ok (.invokevirtual 234, 3) := by decide +kernel
theorem dX7_answer_62 : decode cX7_answer 62 = .ok (.ireturn, 1) := by decide +kernel
set_option maxRecDepth 20000 in
theorem ggX7_answers_X7_needMachine : GoodIn wsX7_answers wsX7_needMachine := goodIn_ca (goodIn_r _ [6, 7, 8, 9, 139, 140, 141, 142, 143, 144, 145, 146] (by decide +kernel) (by decide +kernel)) (goodIn_sub (fun _ h => List.mem_cons_of_mem _ (List.mem_append_right _ h)) (by decide +kernel))
set_option maxRecDepth 20000 in
theorem gX7_answers_X7_needMachine : GoodIn wsX7_answers (wsV RX7 92 RX7 yX7_needMachine wsX7_needMachine) := goodIn_app (goodIn_of _ (by decide +kernel)) ggX7_answers_X7_needMachine
set_option maxRecDepth 20000 in
theorem ggX7_answers_X7_lookUp : GoodIn wsX7_answers wsX7_lookUp := goodIn_r _ [13, 1, 14, 15, 16, 17, 18, 19, 20, 21, 22, 23, 24, 25, 26, 27, 28, 29, 30, 31, 32, 33, 34, 35, 36, 37, 38, 39, 40, 41, 42, 43, 44, 45, 46, 5, 47, 48, 49, 50, 51, 52, 53, 54, 55, 56, 57, 58, 59, 60, 61, 62, 63, 64, 65, 66, 67, 68, 69, 70, 71, 72, 73, 74, 75, 76, 77, 78, 79, 80, 81, 82, 83, 84, 85, 86, 87, 88, 89, 90, 91, 139, 140, 141, 142, 143, 144, 145, 146, 147, 148, 149, 150, 151, 152, 153, 154, 155, 156, 157, 158, 159, 160, 161, 162, 163, 164, 165, 166] rfl (by decide +kernel)
set_option maxRecDepth 20000 in
theorem gX7_answers_X7_lookUp : GoodIn wsX7_answers (wsV RX7 226 RX7 yX7_lookUp wsX7_lookUp) := goodIn_app (goodIn_of _ (by decide +kernel)) ggX7_answers_X7_lookUp
set_option maxRecDepth 20000 in
theorem ggX7_answers_X4_find : GoodIn wsX7_answers wsX4_find := goodIn_r _ [95, 96, 34, 60, 61, 97, 98, 99, 100, 101, 102, 20, 103, 104, 105, 106, 107, 27, 22, 59, 108, 109, 110, 111, 58, 39, 40, 44, 45, 62, 5, 63, 112, 113, 114, 115, 42, 64, 65, 66, 88, 89, 90, 91, 33, 43, 75, 116, 117, 118, 119, 120, 121, 122, 123, 124, 125, 126, 127, 71, 72, 73, 74, 28, 80, 81, 82, 83, 128, 129, 130, 131, 132, 133, 134, 135, 136, 137, 138, 147, 148, 149, 150, 151, 152, 153, 154, 155, 156, 157, 158, 159, 160, 161, 162, 163, 164, 165, 166] rfl (by decide +kernel)
set_option maxRecDepth 20000 in
theorem gX7_answers_X4_find : GoodIn wsX7_answers (wsV RX7 230 RX4 yX4_find wsX4_find) := goodIn_app (goodIn_of _ (by decide +kernel)) ggX7_answers_X4_find
theorem dX7_answers_0 : decode cX7_answers 0 = .ok (.aload_n 0, 1) := by decide +kernel
theorem dX7_answers_1 : decode cX7_answers 1 = .ok (.iload_n 1, 1) := by decide +kernel
theorem dX7_answers_2 : decode cX7_answers 2 = .ok (.invokevirtual 92, 3) := by decide +kernel
theorem dX7_answers_5 : decode cX7_answers 5 = .ok (.aload_n 0, 1) := by decide +kernel
theorem dX7_answers_6 : decode cX7_answers 6 = .ok (.iload_n 1, 1) := by decide +kernel
theorem dX7_answers_7 : decode cX7_answers 7 = .ok (.iload_n 2, 1) := by decide +kernel
theorem dX7_answers_8 : decode cX7_answers 8 = .ok (.invokevirtual 226, 3) := by decide +kernel
theorem dX7_answers_11 : decode cX7_answers 11 = .ok (.aload_n 0, 1) := by decide +kernel
theorem dX7_answers_12 : decode cX7_answers 12 = .ok (.getfield 44, 3) := by decide +kernel
theorem dX7_answers_15 : decode cX7_answers 15 = .ok (.bipush 20, 2) := by decide +kernel
theorem dX7_answers_17 : decode cX7_answers 17 = .ok (.iconst 0, 1) := by decide +kernel
theorem dX7_answers_18 : decode cX7_answers 18 = .ok (.invokevirtual 230, 3) := by decide +kernel
theorem dX7_answers_21 : decode cX7_answers 21 = .ok (.ireturn, 1) := by decide +kernel
set_option maxRecDepth 20000 in
theorem ggX7_cost_X7_needMachine : GoodIn wsX7_cost wsX7_needMachine := goodIn_ca (goodIn_r _ [6, 7, 8, 9, 96, 97, 98, 99, 100, 101, 102, 103] (by decide +kernel) (by decide +kernel)) (goodIn_sub (fun _ h => List.mem_cons_of_mem _ (List.mem_append_right _ h)) (by decide +kernel))
set_option maxRecDepth 20000 in
theorem gX7_cost_X7_needMachine : GoodIn wsX7_cost (wsV RX7 92 RX7 yX7_needMachine wsX7_needMachine) := goodIn_app (goodIn_of _ (by decide +kernel)) ggX7_cost_X7_needMachine
set_option maxRecDepth 20000 in
theorem ggX7_cost_X7_lookUp : GoodIn wsX7_cost wsX7_lookUp := goodIn_r _ [13, 1, 14, 15, 16, 17, 18, 19, 20, 21, 22, 23, 24, 25, 26, 27, 28, 29, 30, 31, 32, 33, 34, 35, 36, 37, 38, 39, 40, 41, 42, 43, 44, 45, 46, 5, 47, 48, 49, 50, 51, 52, 53, 54, 55, 56, 57, 58, 59, 60, 61, 62, 63, 64, 65, 66, 67, 68, 69, 70, 71, 72, 73, 74, 75, 76, 77, 78, 79, 80, 81, 82, 83, 84, 85, 86, 87, 88, 89, 90, 91, 96, 97, 98, 99, 100, 101, 102, 103, 104, 105, 106, 107, 108, 109, 110, 111, 112, 113, 114, 115, 116, 117, 118, 119, 120, 121, 122, 123] rfl (by decide +kernel)
set_option maxRecDepth 20000 in
theorem gX7_cost_X7_lookUp : GoodIn wsX7_cost (wsV RX7 226 RX7 yX7_lookUp wsX7_lookUp) := goodIn_app (goodIn_of _ (by decide +kernel)) ggX7_cost_X7_lookUp
set_option maxRecDepth 20000 in
theorem ggX7_cost_X4_leastCost : GoodIn wsX7_cost wsX4_leastCost := goodIn_r _ [95, 60, 61, 104, 105, 106, 107, 108, 109, 110, 111, 112, 113, 114, 115, 116, 117] rfl (by decide +kernel)
set_option maxRecDepth 20000 in
theorem gX7_cost_X4_leastCost : GoodIn wsX7_cost (wsV RX7 237 RX4 yX4_leastCost wsX4_leastCost) := goodIn_app (goodIn_of _ (by decide +kernel)) ggX7_cost_X4_leastCost
theorem dX7_cost_0 : decode cX7_cost 0 = .ok (.aload_n 0, 1) := by decide +kernel
theorem dX7_cost_1 : decode cX7_cost 1 = .ok (.iload_n 1, 1) := by decide +kernel
theorem dX7_cost_2 : decode cX7_cost 2 = .ok (.invokevirtual 92, 3) := by decide +kernel
theorem dX7_cost_5 : decode cX7_cost 5 = .ok (.aload_n 0, 1) := by decide +kernel
theorem dX7_cost_6 : decode cX7_cost 6 = .ok (.iload_n 1, 1) := by decide +kernel
theorem dX7_cost_7 : decode cX7_cost 7 = .ok (.iload_n 2, 1) := by decide +kernel
theorem dX7_cost_8 : decode cX7_cost 8 = .ok (.invokevirtual 226, 3) := by decide +kernel
theorem dX7_cost_11 : decode cX7_cost 11 = .ok (.aload_n 0, 1) := by decide +kernel
theorem dX7_cost_12 : decode cX7_cost 12 = .ok (.getfield 44, 3) := by decide +kernel
theorem dX7_cost_15 : decode cX7_cost 15 = .ok (.invokevirtual 237, 3) := by decide +kernel
theorem dX7_cost_18 : decode cX7_cost 18 = .ok (.ireturn, 1) := by decide +kernel
set_option maxRecDepth 20000 in
theorem ggX7_best_X7_needMachine : GoodIn wsX7_best wsX7_needMachine := goodIn_ca (goodIn_r _ [6, 7, 8, 9, 146, 147, 148, 149, 150, 151, 152, 153] (by decide +kernel) (by decide +kernel)) (goodIn_sub (fun _ h => List.mem_cons_of_mem _ (List.mem_append_right _ h)) (by decide +kernel))
set_option maxRecDepth 20000 in
theorem gX7_best_X7_needMachine : GoodIn wsX7_best (wsV RX7 92 RX7 yX7_needMachine wsX7_needMachine) := goodIn_app (goodIn_of _ (by decide +kernel)) ggX7_best_X7_needMachine
set_option maxRecDepth 20000 in
theorem ggX7_best_X7_needPlace : GoodIn wsX7_best wsX7_needPlace := goodIn_ca (goodIn_r _ [12, 7, 8] (by decide +kernel) (by decide +kernel)) (goodIn_sub (fun _ h => List.mem_cons_of_mem _ (List.mem_append_right _ h)) (by decide +kernel))
set_option maxRecDepth 20000 in
theorem gX7_best_X7_needPlace : GoodIn wsX7_best (va_wsS RX7 221 yX7_needPlace wsX7_needPlace) := goodIn_app (goodIn_of _ (by decide +kernel)) ggX7_best_X7_needPlace
set_option maxRecDepth 20000 in
theorem ggX7_best_X7_lookUp : GoodIn wsX7_best wsX7_lookUp := goodIn_r _ [16, 1, 17, 18, 19, 20, 21, 22, 23, 24, 25, 26, 27, 28, 29, 30, 31, 32, 33, 34, 35, 36, 37, 38, 39, 40, 41, 42, 43, 44, 45, 46, 47, 48, 49, 5, 50, 51, 52, 53, 54, 55, 56, 57, 58, 59, 60, 61, 62, 63, 64, 65, 66, 67, 68, 69, 70, 71, 72, 73, 74, 75, 76, 77, 78, 79, 80, 81, 82, 83, 84, 85, 86, 87, 88, 89, 90, 91, 92, 93, 94, 146, 147, 148, 149, 150, 151, 152, 153, 154, 155, 156, 157, 158, 159, 160, 161, 162, 163, 164, 165, 166, 167, 168, 169, 170, 171, 172, 173] rfl (by decide +kernel)
set_option maxRecDepth 20000 in
theorem gX7_best_X7_lookUp : GoodIn wsX7_best (wsV RX7 226 RX7 yX7_lookUp wsX7_lookUp) := goodIn_app (goodIn_of _ (by decide +kernel)) ggX7_best_X7_lookUp
set_option maxRecDepth 20000 in
theorem ggX7_best_X4_find : GoodIn wsX7_best wsX4_find := goodIn_r _ [98, 99, 37, 63, 64, 100, 101, 102, 103, 104, 105, 23, 106, 107, 108, 109, 110, 30, 25, 62, 111, 112, 113, 114, 61, 42, 43, 47, 48, 65, 5, 66, 115, 116, 117, 118, 45, 67, 68, 69, 91, 92, 93, 94, 36, 46, 78, 119, 120, 121, 122, 123, 124, 125, 126, 127, 128, 129, 130, 74, 75, 76, 77, 31, 83, 84, 85, 86, 131, 132, 133, 134, 135, 136, 137, 138, 139, 140, 141, 154, 155, 156, 157, 158, 159, 160, 161, 162, 163, 164, 165, 166, 167, 168, 169, 170, 171, 172, 173] rfl (by decide +kernel)
set_option maxRecDepth 20000 in
theorem gX7_best_X4_find : GoodIn wsX7_best (wsV RX7 230 RX4 yX4_find wsX4_find) := goodIn_app (goodIn_of _ (by decide +kernel)) ggX7_best_X4_find
set_option maxRecDepth 20000 in
theorem ggX7_best_X4_foundLetter : GoodIn wsX7_best wsX4_foundLetter := goodIn_r _ [145, 37, 102, 154, 155, 156, 157, 158, 159, 160, 161, 162, 163, 164, 165, 166, 167] rfl (by decide +kernel)
set_option maxRecDepth 20000 in
theorem gX7_best_X4_foundLetter : GoodIn wsX7_best (wsV RX7 234 RX4 yX4_foundLetter wsX4_foundLetter) := goodIn_app (goodIn_of _ (by decide +kernel)) ggX7_best_X4_foundLetter
theorem dX7_best_0 : decode cX7_best 0 = .ok (.aload_n 0, 1) := by decide +kernel
theorem dX7_best_1 : decode cX7_best 1 = .ok (.iload_n 1, 1) := by decide +kernel
theorem dX7_best_2 : decode cX7_best 2 = .ok (.invokevirtual 92, 3) := by decide +kernel
theorem dX7_best_5 : decode cX7_best 5 = .ok (.iload_n 3, 1) := by decide +kernel
theorem dX7_best_6 : decode cX7_best 6 = .ok (.invokestatic 221, 3) := by decide +kernel
theorem dX7_best_9 : decode cX7_best 9 = .ok (.aload_n 0, 1) := by decide +kernel
theorem dX7_best_10 : decode cX7_best 10 = .ok (.iload_n 1, 1) := by decide +kernel
theorem dX7_best_11 : decode cX7_best 11 = .ok (.iload_n 2, 1) := by decide +kernel
theorem dX7_best_12 : decode cX7_best 12 = .ok (.invokevirtual 226, 3) := by decide +kernel
theorem dX7_best_15 : decode cX7_best 15 = .ok (.aload_n 0, 1) := by decide +kernel
theorem dX7_best_16 : decode cX7_best 16 = .ok (.getfield 44, 3) := by decide +kernel
theorem dX7_best_19 : decode cX7_best 19 = .ok (.iconst 1, 1) := by decide +kernel
theorem dX7_best_20 : decode cX7_best 20 = .ok (.iconst 1, 1) := by decide +kernel
theorem dX7_best_21 : decode cX7_best 21 = .ok (.invokevirtual 230, 3) := by decide +kernel
theorem dX7_best_24 : decode cX7_best 24 = .ok (.ifCond .ne 7, 3) := by decide +kernel
theorem dX7_best_27 : decode cX7_best 27 = .ok (.iconst (-1), 1) := by decide +kernel
theorem dX7_best_28 : decode cX7_best 28 = .ok (.goto 11, 3) := by decide +kernel
theorem dX7_best_31 : decode cX7_best 31 = .ok (.aload_n 0, 1) := by decide +kernel
theorem dX7_best_32 : decode cX7_best 32 = .ok (.getfield 44, 3) := by decide +kernel
theorem dX7_best_35 : decode cX7_best 35 = .ok (.iload_n 3, 1) := by decide +kernel
theorem dX7_best_36 : decode cX7_best 36 = .ok (.invokevirtual 234, 3) := by decide +kernel
theorem dX7_best_39 : decode cX7_best 39 = .ok (.ireturn, 1) := by decide +kernel
set_option maxRecDepth 20000 in
theorem ggX7_changes_X7_needMachine : GoodIn wsX7_changes wsX7_needMachine := goodIn_ca (goodIn_r _ [9, 10, 11, 12, 92, 93, 94, 95, 96, 97, 98, 99] (by decide +kernel) (by decide +kernel)) (goodIn_sub (fun _ h => List.mem_cons_of_mem _ (List.mem_append_right _ h)) (by decide +kernel))
set_option maxRecDepth 20000 in
theorem gX7_changes_X7_needMachine : GoodIn wsX7_changes (wsV RX7 92 RX7 yX7_needMachine wsX7_needMachine) := goodIn_app (goodIn_of _ (by decide +kernel)) ggX7_changes_X7_needMachine
set_option maxRecDepth 20000 in
theorem ggX7_changes_X4_begin : GoodIn wsX7_changes wsX4_begin := goodIn_r _ [17, 18, 19, 20, 21, 22, 23, 24, 25, 26, 27, 28, 29, 30, 31, 32, 33, 16, 34, 35, 36, 37, 38, 39, 40, 41, 42, 8, 43, 44, 45, 46, 47, 48, 49, 50, 51, 52, 53, 54, 55, 56, 57, 58, 59, 60, 61, 62, 63, 64, 65, 66, 67, 68, 69, 70, 71, 72, 73, 74, 75, 76, 77, 78, 79, 80, 81, 82, 83, 84, 85, 86, 87, 100, 101, 102, 103, 104, 105, 106, 107, 108, 109, 110, 111, 112, 113, 114, 115, 116, 117, 118, 119] rfl (by decide +kernel)
set_option maxRecDepth 20000 in
theorem gX7_changes_X4_begin : GoodIn wsX7_changes (wsV RX7 240 RX4 yX4_begin wsX4_begin) := goodIn_app (goodIn_of _ (by decide +kernel)) ggX7_changes_X4_begin
set_option maxRecDepth 20000 in
theorem ggX7_changes_X4_leastCost : GoodIn wsX7_changes wsX4_leastCost := goodIn_r _ [91, 56, 57, 100, 101, 102, 103, 104, 105, 106, 107, 108, 109, 110, 111, 112, 113] rfl (by decide +kernel)
set_option maxRecDepth 20000 in
theorem gX7_changes_X4_leastCost : GoodIn wsX7_changes (wsV RX7 237 RX4 yX4_leastCost wsX4_leastCost) := goodIn_app (goodIn_of _ (by decide +kernel)) ggX7_changes_X4_leastCost
theorem dX7_changes_0 : decode cX7_changes 0 = .ok (.aload_n 0, 1) := by decide +kernel
theorem dX7_changes_1 : decode cX7_changes 1 = .ok (.iload_n 1, 1) := by decide +kernel
theorem dX7_changes_2 : decode cX7_changes 2 = .ok (.invokevirtual 92, 3) := by decide +kernel
theorem dX7_changes_5 : decode cX7_changes 5 = .ok (.aload_n 0, 1) := by decide +kernel
theorem dX7_changes_6 : decode cX7_changes 6 = .ok (.getfield 44, 3) := by decide +kernel
theorem dX7_changes_9 : decode cX7_changes 9 = .ok (.aload_n 0, 1) := by decide +kernel
theorem dX7_changes_10 : decode cX7_changes 10 = .ok (.getfield 19, 3) := by decide +kernel
theorem dX7_changes_13 : decode cX7_changes 13 = .ok (.iload_n 1, 1) := by decide +kernel
theorem dX7_changes_14 : decode cX7_changes 14 = .ok (.aaload, 1) := by decide +kernel
theorem dX7_changes_15 : decode cX7_changes 15 = .ok (.aload_n 0, 1) := by decide +kernel
theorem dX7_changes_16 : decode cX7_changes 16 = .ok (.getfield 9, 3) := by decide +kernel
theorem dX7_changes_19 : decode cX7_changes 19 = .ok (.aload_n 0, 1) := by decide +kernel
theorem dX7_changes_20 : decode cX7_changes 20 = .ok (.getfield 13, 3) := by decide +kernel
theorem dX7_changes_23 : decode cX7_changes 23 = .ok (.iconst 2, 1) := by decide +kernel
theorem dX7_changes_24 : decode cX7_changes 24 = .ok (.invokevirtual 240, 3) := by decide +kernel
theorem dX7_changes_27 : decode cX7_changes 27 = .ok (.aload_n 0, 1) := by decide +kernel
theorem dX7_changes_28 : decode cX7_changes 28 = .ok (.getfield 44, 3) := by decide +kernel
theorem dX7_changes_31 : decode cX7_changes 31 = .ok (.invokevirtual 237, 3) := by decide +kernel
theorem dX7_changes_34 : decode cX7_changes 34 = .ok (.ireturn, 1) := by decide +kernel
set_option maxRecDepth 20000 in
theorem ggX7_mended_X7_needMachine : GoodIn wsX7_mended wsX7_needMachine := goodIn_ca (goodIn_r _ [9, 10, 11, 12, 142, 143, 144, 145, 146, 147, 148, 149] (by decide +kernel) (by decide +kernel)) (goodIn_sub (fun _ h => List.mem_cons_of_mem _ (List.mem_append_right _ h)) (by decide +kernel))
set_option maxRecDepth 20000 in
theorem gX7_mended_X7_needMachine : GoodIn wsX7_mended (wsV RX7 92 RX7 yX7_needMachine wsX7_needMachine) := goodIn_app (goodIn_of _ (by decide +kernel)) ggX7_mended_X7_needMachine
set_option maxRecDepth 20000 in
theorem ggX7_mended_X7_needPlace : GoodIn wsX7_mended wsX7_needPlace := goodIn_ca (goodIn_r _ [15, 10, 11] (by decide +kernel) (by decide +kernel)) (goodIn_sub (fun _ h => List.mem_cons_of_mem _ (List.mem_append_right _ h)) (by decide +kernel))
set_option maxRecDepth 20000 in
theorem gX7_mended_X7_needPlace : GoodIn wsX7_mended (va_wsS RX7 221 yX7_needPlace wsX7_needPlace) := goodIn_app (goodIn_of _ (by decide +kernel)) ggX7_mended_X7_needPlace
set_option maxRecDepth 20000 in
theorem ggX7_mended_X4_begin : GoodIn wsX7_mended wsX4_begin := goodIn_r _ [20, 21, 22, 23, 24, 25, 26, 27, 28, 29, 30, 31, 32, 33, 34, 35, 36, 19, 37, 38, 39, 40, 41, 42, 43, 44, 45, 8, 46, 47, 48, 49, 50, 51, 52, 53, 54, 55, 56, 57, 58, 59, 60, 61, 62, 63, 64, 65, 66, 67, 68, 69, 70, 71, 72, 73, 74, 75, 76, 77, 78, 79, 80, 81, 82, 83, 84, 85, 86, 87, 88, 89, 90, 150, 151, 152, 153, 154, 155, 156, 157, 158, 159, 160, 161, 162, 163, 164, 165, 166, 167, 168, 169] rfl (by decide +kernel)
set_option maxRecDepth 20000 in
theorem gX7_mended_X4_begin : GoodIn wsX7_mended (wsV RX7 240 RX4 yX4_begin wsX4_begin) := goodIn_app (goodIn_of _ (by decide +kernel)) ggX7_mended_X4_begin
set_option maxRecDepth 20000 in
theorem ggX7_mended_X4_find : GoodIn wsX7_mended wsX4_find := goodIn_r _ [94, 95, 33, 59, 60, 96, 97, 98, 99, 100, 101, 19, 102, 103, 104, 105, 106, 26, 21, 58, 107, 108, 109, 110, 57, 38, 39, 43, 44, 61, 8, 62, 111, 112, 113, 114, 41, 63, 64, 65, 87, 88, 89, 90, 32, 42, 74, 115, 116, 117, 118, 119, 120, 121, 122, 123, 124, 125, 126, 70, 71, 72, 73, 27, 79, 80, 81, 82, 127, 128, 129, 130, 131, 132, 133, 134, 135, 136, 137, 150, 151, 152, 153, 154, 155, 156, 157, 158, 159, 160, 161, 162, 163, 164, 165, 166, 167, 168, 169] rfl (by decide +kernel)
set_option maxRecDepth 20000 in
theorem gX7_mended_X4_find : GoodIn wsX7_mended (wsV RX7 230 RX4 yX4_find wsX4_find) := goodIn_app (goodIn_of _ (by decide +kernel)) ggX7_mended_X4_find
set_option maxRecDepth 20000 in
theorem ggX7_mended_X4_foundLetter : GoodIn wsX7_mended wsX4_foundLetter := goodIn_r _ [141, 33, 98, 150, 151, 152, 153, 154, 155, 156, 157, 158, 159, 160, 161, 162, 163] rfl (by decide +kernel)
set_option maxRecDepth 20000 in
theorem gX7_mended_X4_foundLetter : GoodIn wsX7_mended (wsV RX7 234 RX4 yX4_foundLetter wsX4_foundLetter) := goodIn_app (goodIn_of _ (by decide +kernel)) ggX7_mended_X4_foundLetter
theorem dX7_mended_0 : decode cX7_mended 0 = .ok (.aload_n 0, 1) := by decide +kernel
theorem dX7_mended_1 : decode cX7_mended 1 = .ok (.iload_n 1, 1) := by decide +kernel
theorem dX7_mended_2 : decode cX7_mended 2 = .ok (.invokevirtual 92, 3) := by decide +kernel
theorem dX7_mended_5 : decode cX7_mended 5 = .ok (.iload_n 2, 1) := by decide +kernel
theorem dX7_mended_6 : decode cX7_mended 6 = .ok (.invokestatic 221, 3) := by decide +kernel
theorem dX7_mended_9 : decode cX7_mended 9 = .ok (.aload_n 0, 1) := by decide +kernel
theorem dX7_mended_10 : decode cX7_mended 10 = .ok (.getfield 44, 3) := by decide +kernel
theorem dX7_mended_13 : decode cX7_mended 13 = .ok (.aload_n 0, 1) := by decide +kernel
theorem dX7_mended_14 : decode cX7_mended 14 = .ok (.getfield 19, 3) := by decide +kernel
theorem dX7_mended_17 : decode cX7_mended 17 = .ok (.iload_n 1, 1) := by decide +kernel
theorem dX7_mended_18 : decode cX7_mended 18 = .ok (.aaload, 1) := by decide +kernel
theorem dX7_mended_19 : decode cX7_mended 19 = .ok (.aload_n 0, 1) := by decide +kernel
theorem dX7_mended_20 : decode cX7_mended 20 = .ok (.getfield 9, 3) := by decide +kernel
theorem dX7_mended_23 : decode cX7_mended 23 = .ok (.aload_n 0, 1) := by decide +kernel
theorem dX7_mended_24 : decode cX7_mended 24 = .ok (.getfield 13, 3) := by decide +kernel
theorem dX7_mended_27 : decode cX7_mended 27 = .ok (.iconst 2, 1) := by decide +kernel
theorem dX7_mended_28 : decode cX7_mended 28 = .ok (.invokevirtual 240, 3) := by decide +kernel
theorem dX7_mended_31 : decode cX7_mended 31 = .ok (.aload_n 0, 1) := by decide +kernel
theorem dX7_mended_32 : decode cX7_mended 32 = .ok (.getfield 44, 3) := by decide +kernel
theorem dX7_mended_35 : decode cX7_mended 35 = .ok (.iconst 1, 1) := by decide +kernel
theorem dX7_mended_36 : decode cX7_mended 36 = .ok (.iconst 1, 1) := by decide +kernel
theorem dX7_mended_37 : decode cX7_mended 37 = .ok (.invokevirtual 230, 3) := by decide +kernel
theorem dX7_mended_40 : decode cX7_mended 40 = .ok (.ifCond .ne 7, 3) := by decide +kernel
theorem dX7_mended_43 : decode cX7_mended 43 = .ok (.iconst (-1), 1) := by decide +kernel
theorem dX7_mended_44 : decode cX7_mended 44 = .ok (.goto 11, 3) := by decide +kernel
theorem dX7_mended_47 : decode cX7_mended 47 = .ok (.aload_n 0, 1) := by decide +kernel
theorem dX7_mended_48 : decode cX7_mended 48 = .ok (.getfield 44, 3) := by decide +kernel
theorem dX7_mended_51 : decode cX7_mended 51 = .ok (.iload_n 2, 1) := by decide +kernel
theorem dX7_mended_52 : decode cX7_mended 52 = .ok (.invokevirtual 234, 3) := by decide +kernel
theorem dX7_mended_55 : decode cX7_mended 55 = .ok (.ireturn, 1) := by decide +kernel
set_option maxRecDepth 20000 in
theorem ggX7_apart_X7_needMachine : GoodIn wsX7_apart wsX7_needMachine := goodIn_ca (goodIn_r _ [7, 8, 9, 10, 118, 119, 120, 121, 122, 123, 124, 125] (by decide +kernel) (by decide +kernel)) (goodIn_sub (fun _ h => List.mem_cons_of_mem _ (List.mem_append_left _ (List.mem_append_right _ h))) (by decide +kernel))
set_option maxRecDepth 20000 in
theorem gX7_apart_X7_needMachine : GoodIn wsX7_apart (wsV RX7 92 RX7 yX7_needMachine wsX7_needMachine) := goodIn_app (goodIn_of _ (by decide +kernel)) ggX7_apart_X7_needMachine
set_option maxRecDepth 20000 in
theorem ggX7_apart_X7_needPlace : GoodIn wsX7_apart wsX7_needPlace := goodIn_ca (goodIn_r _ [13, 8, 9] (by decide +kernel) (by decide +kernel)) (goodIn_sub (fun _ h => List.mem_cons_of_mem _ (List.mem_append_left _ (List.mem_append_right _ h))) (by decide +kernel))
set_option maxRecDepth 20000 in
theorem gX7_apart_X7_needPlace : GoodIn wsX7_apart (va_wsS RX7 221 yX7_needPlace wsX7_needPlace) := goodIn_app (goodIn_of _ (by decide +kernel)) ggX7_apart_X7_needPlace
set_option maxRecDepth 20000 in
theorem ggX7_apart_X7_needPlain : GoodIn wsX7_apart wsX7_needPlain := goodIn_ca (goodIn_r _ [17, 18, 19, 2, 20, 21, 22, 23, 24, 25, 26, 27, 28, 29, 6, 30, 31, 32, 118, 119, 120, 121, 122, 123, 124, 125, 126, 127, 128, 129, 130, 131] (by decide +kernel) (by decide +kernel)) (goodIn_sub (fun _ h => List.mem_cons_of_mem _ (List.mem_append_right _ h)) (by decide +kernel))
set_option maxRecDepth 20000 in
theorem gX7_apart_X7_needPlain : GoodIn wsX7_apart (wsV RX7 157 RX7 yX7_needPlain wsX7_needPlain) := goodIn_app (goodIn_of _ (by decide +kernel)) ggX7_apart_X7_needPlain
set_option maxRecDepth 20000 in
theorem ggX7_apart_X5_exploreTwo : GoodIn wsX7_apart wsX5_exploreTwo := goodIn_r _ [37, 38, 39, 40, 41, 42, 43, 44, 45, 46, 47, 48, 49, 50, 51, 52, 53, 54, 55, 56, 57, 58, 59, 6, 60, 61, 62, 29, 30, 63, 64, 65, 36, 66, 67, 68, 69, 70, 71, 72, 73, 74, 75, 76, 77, 78, 79, 80, 81, 82, 83, 84, 85, 86, 87, 88, 89, 90, 91, 92, 93, 94, 132, 133, 134, 135, 136, 137, 138, 139, 140, 141, 142, 143, 144, 126, 127, 128, 145, 146, 147, 148, 129, 130, 131] rfl (by decide +kernel)
set_option maxRecDepth 20000 in
theorem gX7_apart_X5_exploreTwo : GoodIn wsX7_apart (wsV RX7 175 RX5 yX5_exploreTwo wsX5_exploreTwo) := goodIn_app (goodIn_of _ (by decide +kernel)) ggX7_apart_X5_exploreTwo
set_option maxRecDepth 20000 in
theorem ggX7_apart_X7_needSets : GoodIn wsX7_apart wsX7_needSets := goodIn_ca (goodIn_r _ [97, 18, 19] (by decide +kernel) (by decide +kernel)) (goodIn_sub (fun _ h => List.mem_cons_of_mem _ (List.mem_append_right _ h)) (by decide +kernel))
set_option maxRecDepth 20000 in
theorem gX7_apart_X7_needSets : GoodIn wsX7_apart (va_wsS RX7 164 yX7_needSets wsX7_needSets) := goodIn_app (goodIn_of _ (by decide +kernel)) ggX7_apart_X7_needSets
set_option maxRecDepth 20000 in
theorem ggX7_apart_X5_firstWantedLetter : GoodIn wsX7_apart wsX5_firstWantedLetter := goodIn_r _ [101, 67, 102, 103, 104, 36, 105, 38, 68, 39, 69, 40, 106, 107, 108, 44, 109, 49, 110, 111, 112, 113, 79, 80, 114, 115, 116, 117, 132, 133, 134, 135, 136, 137, 138, 139, 140, 141, 142, 143, 144, 145, 146, 147, 148] rfl (by decide +kernel)
set_option maxRecDepth 20000 in
theorem gX7_apart_X5_firstWantedLetter : GoodIn wsX7_apart (wsV RX7 243 RX5 yX5_firstWantedLetter wsX5_firstWantedLetter) := goodIn_app (goodIn_of _ (by decide +kernel)) ggX7_apart_X5_firstWantedLetter
theorem dX7_apart_0 : decode cX7_apart 0 = .ok (.aload_n 0, 1) := by decide +kernel
theorem dX7_apart_1 : decode cX7_apart 1 = .ok (.iload_n 1, 1) := by decide +kernel
theorem dX7_apart_2 : decode cX7_apart 2 = .ok (.invokevirtual 92, 3) := by decide +kernel
theorem dX7_apart_5 : decode cX7_apart 5 = .ok (.aload_n 0, 1) := by decide +kernel
theorem dX7_apart_6 : decode cX7_apart 6 = .ok (.iload_n 2, 1) := by decide +kernel
theorem dX7_apart_7 : decode cX7_apart 7 = .ok (.invokevirtual 92, 3) := by decide +kernel
theorem dX7_apart_10 : decode cX7_apart 10 = .ok (.iload_n 3, 1) := by decide +kernel
theorem dX7_apart_11 : decode cX7_apart 11 = .ok (.invokestatic 221, 3) := by decide +kernel
theorem dX7_apart_14 : decode cX7_apart 14 = .ok (.aload_n 0, 1) := by decide +kernel
theorem dX7_apart_15 : decode cX7_apart 15 = .ok (.iload_n 1, 1) := by decide +kernel
theorem dX7_apart_16 : decode cX7_apart 16 = .ok (.invokevirtual 157, 3) := by decide +kernel
theorem dX7_apart_19 : decode cX7_apart 19 = .ok (.aload_n 0, 1) := by decide +kernel
theorem dX7_apart_20 : decode cX7_apart 20 = .ok (.iload_n 2, 1) := by decide +kernel
theorem dX7_apart_21 : decode cX7_apart 21 = .ok (.invokevirtual 157, 3) := by decide +kernel
theorem dX7_apart_24 : decode cX7_apart 24 = .ok (.aload_n 0, 1) := by decide +kernel
theorem dX7_apart_25 : decode cX7_apart 25 = .ok (.getfield 37, 3) := by decide +kernel
theorem dX7_apart_28 : decode cX7_apart 28 = .ok (.aload_n 0, 1) := by decide +kernel
theorem dX7_apart_29 : decode cX7_apart 29 = .ok (.getfield 19, 3) := by decide +kernel
theorem dX7_apart_32 : decode cX7_apart 32 = .ok (.iload_n 1, 1) := by decide +kernel
theorem dX7_apart_33 : decode cX7_apart 33 = .ok (.aaload, 1) := by decide +kernel
theorem dX7_apart_34 : decode cX7_apart 34 = .ok (.aload_n 0, 1) := by decide +kernel
theorem dX7_apart_35 : decode cX7_apart 35 = .ok (.getfield 19, 3) := by decide +kernel
theorem dX7_apart_38 : decode cX7_apart 38 = .ok (.iload_n 2, 1) := by decide +kernel
theorem dX7_apart_39 : decode cX7_apart 39 = .ok (.aaload, 1) := by decide +kernel
theorem dX7_apart_40 : decode cX7_apart 40 = .ok (.iconst 2, 1) := by decide +kernel
theorem dX7_apart_41 : decode cX7_apart 41 = .ok (.invokevirtual 175, 3) := by decide +kernel
theorem dX7_apart_44 : decode cX7_apart 44 = .ok (.invokestatic 164, 3) := by decide +kernel
theorem dX7_apart_47 : decode cX7_apart 47 = .ok (.aload_n 0, 1) := by decide +kernel
theorem dX7_apart_48 : decode cX7_apart 48 = .ok (.getfield 37, 3) := by decide +kernel
theorem dX7_apart_51 : decode cX7_apart 51 = .ok (.iload_n 3, 1) := by decide +kernel
theorem dX7_apart_52 : decode cX7_apart 52 = .ok (.invokevirtual 243, 3) := by decide +kernel
theorem dX7_apart_55 : decode cX7_apart 55 = .ok (.ireturn, 1) := by decide +kernel
set_option maxRecDepth 20000 in
theorem ggX7_ruled_X7_needPlace : GoodIn wsX7_ruled wsX7_needPlace := goodIn_ca (goodIn_r _ [6, 7, 8] (by decide +kernel) (by decide +kernel)) (goodIn_sub (fun _ h => List.mem_cons_of_mem _ (List.mem_append_left _ (List.mem_append_right _ h))) (by decide +kernel))
set_option maxRecDepth 20000 in
theorem gX7_ruled_X7_needPlace : GoodIn wsX7_ruled (va_wsS RX7 221 yX7_needPlace wsX7_needPlace) := goodIn_app (goodIn_of _ (by decide +kernel)) ggX7_ruled_X7_needPlace
set_option maxRecDepth 20000 in
theorem ggX7_ruled_X7_needRule : GoodIn wsX7_ruled wsX7_needRule := goodIn_ca (goodIn_r _ [11, 12, 13, 14, 15, 5, 16, 17, 18, 19, 20, 21, 22] (by decide +kernel) (by decide +kernel)) (goodIn_sub (fun _ h => List.mem_cons_of_mem _ (List.mem_append_right _ h)) (by decide +kernel))
set_option maxRecDepth 20000 in
theorem gX7_ruled_X7_needRule : GoodIn wsX7_ruled (va_wsS RX7 179 yX7_needRule wsX7_needRule) := goodIn_app (goodIn_of _ (by decide +kernel)) ggX7_ruled_X7_needRule
set_option maxRecDepth 20000 in
theorem ggX7_ruled_X7_isRewritten : GoodIn wsX7_ruled wsX7_isRewritten := goodIn_r _ [26, 2, 1, 27, 28, 29, 30, 31, 32, 33, 34] rfl (by decide +kernel)
set_option maxRecDepth 20000 in
theorem gX7_ruled_X7_isRewritten : GoodIn wsX7_ruled (wsV RX7 246 RX7 yX7_isRewritten wsX7_isRewritten) := goodIn_app (goodIn_of _ (by decide +kernel)) ggX7_ruled_X7_isRewritten
theorem dX7_ruled_0 : decode cX7_ruled 0 = .ok (.iload 5, 2) := by decide +kernel
theorem dX7_ruled_2 : decode cX7_ruled 2 = .ok (.invokestatic 221, 3) := by decide +kernel
theorem dX7_ruled_5 : decode cX7_ruled 5 = .ok (.iload_n 1, 1) := by decide +kernel
theorem dX7_ruled_6 : decode cX7_ruled 6 = .ok (.iload_n 2, 1) := by decide +kernel
theorem dX7_ruled_7 : decode cX7_ruled 7 = .ok (.iload_n 3, 1) := by decide +kernel
theorem dX7_ruled_8 : decode cX7_ruled 8 = .ok (.iload 4, 2) := by decide +kernel
theorem dX7_ruled_10 : decode cX7_ruled 10 = .ok (.invokestatic 179, 3) := by decide +kernel
theorem dX7_ruled_13 : decode cX7_ruled 13 = .ok (.iconst 0, 1) := by decide +kernel
theorem dX7_ruled_14 : decode cX7_ruled 14 = .ok (.istore 6, 2) := by decide +kernel
theorem dX7_ruled_16 : decode cX7_ruled 16 = .ok (.iconst 0, 1) := by decide +kernel
theorem dX7_ruled_17 : decode cX7_ruled 17 = .ok (.istore 7, 2) := by decide +kernel
theorem dX7_ruled_19 : decode cX7_ruled 19 = .ok (.iload 7, 2) := by decide +kernel
theorem dX7_ruled_21 : decode cX7_ruled 21 = .ok (.aload_n 0, 1) := by decide +kernel
theorem dX7_ruled_22 : decode cX7_ruled 22 = .ok (.getfield 13, 3) := by decide +kernel
theorem dX7_ruled_25 : decode cX7_ruled 25 = .ok (.if_icmp .ge 55, 3) := by decide +kernel
theorem dX7_ruled_28 : decode cX7_ruled 28 = .ok (.aload_n 0, 1) := by decide +kernel
theorem dX7_ruled_29 : decode cX7_ruled 29 = .ok (.iload 7, 2) := by decide +kernel
theorem dX7_ruled_31 : decode cX7_ruled 31 = .ok (.iload_n 1, 1) := by decide +kernel
theorem dX7_ruled_32 : decode cX7_ruled 32 = .ok (.iload_n 3, 1) := by decide +kernel
theorem dX7_ruled_33 : decode cX7_ruled 33 = .ok (.iload 4, 2) := by decide +kernel
theorem dX7_ruled_35 : decode cX7_ruled 35 = .ok (.invokevirtual 246, 3) := by decide +kernel
theorem dX7_ruled_38 : decode cX7_ruled 38 = .ok (.ifCond .eq 7, 3) := by decide +kernel
theorem dX7_ruled_41 : decode cX7_ruled 41 = .ok (.iload_n 2, 1) := by decide +kernel
theorem dX7_ruled_42 : decode cX7_ruled 42 = .ok (.goto 10, 3) := by decide +kernel
theorem dX7_ruled_45 : decode cX7_ruled 45 = .ok (.aload_n 0, 1) := by decide +kernel
theorem dX7_ruled_46 : decode cX7_ruled 46 = .ok (.getfield 9, 3) := by decide +kernel
theorem dX7_ruled_49 : decode cX7_ruled 49 = .ok (.iload 7, 2) := by decide +kernel
theorem dX7_ruled_51 : decode cX7_ruled 51 = .ok (.iaload, 1) := by decide +kernel
theorem dX7_ruled_52 : decode cX7_ruled 52 = .ok (.istore 8, 2) := by decide +kernel
theorem dX7_ruled_54 : decode cX7_ruled 54 = .ok (.iload 8, 2) := by decide +kernel
theorem dX7_ruled_56 : decode cX7_ruled 56 = .ok (.bipush 8, 2) := by decide +kernel
theorem dX7_ruled_58 : decode cX7_ruled 58 = .ok (.if_icmp .eq 16, 3) := by decide +kernel
theorem dX7_ruled_61 : decode cX7_ruled 61 = .ok (.iload 6, 2) := by decide +kernel
theorem dX7_ruled_63 : decode cX7_ruled 63 = .ok (.iload 5, 2) := by decide +kernel
theorem dX7_ruled_65 : decode cX7_ruled 65 = .ok (.if_icmp .ne 6, 3) := by decide +kernel
theorem dX7_ruled_68 : decode cX7_ruled 68 = .ok (.iload 8, 2) := by decide +kernel
theorem dX7_ruled_70 : decode cX7_ruled 70 = .ok (.ireturn, 1) := by decide +kernel
theorem dX7_ruled_71 : decode cX7_ruled 71 = .ok (.iinc 6 1, 3) := by decide +kernel
theorem dX7_ruled_74 : decode cX7_ruled 74 = .ok (.iinc 7 1, 3) := by decide +kernel
theorem dX7_ruled_77 : decode cX7_ruled 77 = .ok (.goto (-58), 3) := by decide +kernel
theorem dX7_ruled_80 : decode cX7_ruled 80 = .ok (.bipush 8, 2) := by decide +kernel
theorem dX7_ruled_82 : decode cX7_ruled 82 = .ok (.ireturn, 1) := by decide +kernel
set_option maxRecDepth 20000 in
theorem ggX7_learn_X2_add : GoodIn wsX7_learn wsX2_add := goodIn_r _ [13, 14, 15, 16, 17, 18, 19, 20, 21, 30, 31, 32, 33, 34, 35] rfl (by decide +kernel)
set_option maxRecDepth 20000 in
theorem gX7_learn_X2_add : GoodIn wsX7_learn (wsV RX7 255 RX2 yX2_add wsX2_add) := goodIn_app (goodIn_of _ (by decide +kernel)) ggX7_learn_X2_add
theorem dX7_learn_0 : decode cX7_learn 0 = .ok (.iload_n 1, 1) := by decide +kernel
theorem dX7_learn_1 : decode cX7_learn 1 = .ok (.ifCond .lt 9, 3) := by decide +kernel
theorem dX7_learn_4 : decode cX7_learn 4 = .ok (.iload_n 1, 1) := by decide +kernel
theorem dX7_learn_5 : decode cX7_learn 5 = .ok (.bipush 6, 2) := by decide +kernel
theorem dX7_learn_7 : decode cX7_learn 7 = .ok (.if_icmp .lt 13, 3) := by decide +kernel
theorem dX7_learn_10 : decode cX7_learn 10 = .ok (.new 59, 3) := by decide +kernel
theorem dX7_learn_13 : decode cX7_learn 13 = .ok (.dup, 1) := by decide +kernel
theorem dX7_learn_14 : decode cX7_learn 14 = .ok (.ldc 250, 2) := by decide +kernel
theorem dX7_learn_16 : decode cX7_learn 16 = .ok (.invokespecial 63, 3) := by decide +kernel
theorem dX7_learn_19 : decode cX7_learn 19 = .ok (.athrow, 1) := by decide +kernel
theorem dX7_learn_20 : decode cX7_learn 20 = .ok (.aload_n 0, 1) := by decide +kernel
theorem dX7_learn_21 : decode cX7_learn 21 = .ok (.getfield 51, 3) := by decide +kernel
theorem dX7_learn_24 : decode cX7_learn 24 = .ok (.getfield 252, 3) := by decide +kernel
theorem dX7_learn_27 : decode cX7_learn 27 = .ok (.bipush 30, 2) := by decide +kernel
theorem dX7_learn_29 : decode cX7_learn 29 = .ok (.if_icmp .lt 13, 3) := by decide +kernel
theorem dX7_learn_32 : decode cX7_learn 32 = .ok (.new 66, 3) := by decide +kernel
theorem dX7_learn_35 : decode cX7_learn 35 = .ok (.dup, 1) := by decide +kernel
theorem dX7_learn_36 : decode cX7_learn 36 = .ok (.ldc 253, 2) := by decide +kernel
theorem dX7_learn_38 : decode cX7_learn 38 = .ok (.invokespecial 70, 3) := by decide +kernel
theorem dX7_learn_41 : decode cX7_learn 41 = .ok (.athrow, 1) := by decide +kernel
theorem dX7_learn_42 : decode cX7_learn 42 = .ok (.aload_n 0, 1) := by decide +kernel
theorem dX7_learn_43 : decode cX7_learn 43 = .ok (.getfield 51, 3) := by decide +kernel
theorem dX7_learn_46 : decode cX7_learn 46 = .ok (.aload_n 0, 1) := by decide +kernel
theorem dX7_learn_47 : decode cX7_learn 47 = .ok (.getfield 9, 3) := by decide +kernel
theorem dX7_learn_50 : decode cX7_learn 50 = .ok (.aload_n 0, 1) := by decide +kernel
theorem dX7_learn_51 : decode cX7_learn 51 = .ok (.getfield 13, 3) := by decide +kernel
theorem dX7_learn_54 : decode cX7_learn 54 = .ok (.iload_n 1, 1) := by decide +kernel
theorem dX7_learn_55 : decode cX7_learn 55 = .ok (.invokevirtual 255, 3) := by decide +kernel
theorem dX7_learn_58 : decode cX7_learn 58 = .ok (.aload_n 0, 1) := by decide +kernel
theorem dX7_learn_59 : decode cX7_learn 59 = .ok (.getfield 51, 3) := by decide +kernel
theorem dX7_learn_62 : decode cX7_learn 62 = .ok (.getfield 252, 3) := by decide +kernel
theorem dX7_learn_65 : decode cX7_learn 65 = .ok (.ireturn, 1) := by decide +kernel
set_option maxRecDepth 20000 in
theorem ggX7_guess_X2_tell : GoodIn wsX7_guess wsX2_tell := goodIn_r _ [8, 9, 10, 11, 12, 13, 14, 15, 16, 17, 18, 19, 20, 21, 7, 22, 23, 24, 25, 26, 27, 28, 29, 30, 31, 32, 33, 42, 43, 44, 45, 46, 47] rfl (by decide +kernel)
set_option maxRecDepth 20000 in
theorem gX7_guess_X2_tell : GoodIn wsX7_guess (wsV RX7 259 RX2 yX2_tell wsX2_tell) := goodIn_app (goodIn_of _ (by decide +kernel)) ggX7_guess_X2_tell
theorem dX7_guess_0 : decode cX7_guess 0 = .ok (.aload_n 0, 1) := by decide +kernel
theorem dX7_guess_1 : decode cX7_guess 1 = .ok (.getfield 51, 3) := by decide +kernel
theorem dX7_guess_4 : decode cX7_guess 4 = .ok (.aload_n 0, 1) := by decide +kernel
theorem dX7_guess_5 : decode cX7_guess 5 = .ok (.getfield 9, 3) := by decide +kernel
theorem dX7_guess_8 : decode cX7_guess 8 = .ok (.aload_n 0, 1) := by decide +kernel
theorem dX7_guess_9 : decode cX7_guess 9 = .ok (.getfield 13, 3) := by decide +kernel
theorem dX7_guess_12 : decode cX7_guess 12 = .ok (.invokevirtual 259, 3) := by decide +kernel
theorem dX7_guess_15 : decode cX7_guess 15 = .ok (.ireturn, 1) := by decide +kernel
theorem dX7_isLetter_0 : decode cX7_isLetter 0 = .ok (.iload_n 0, 1) := by decide +kernel
theorem dX7_isLetter_1 : decode cX7_isLetter 1 = .ok (.ifCond .lt 13, 3) := by decide +kernel
theorem dX7_isLetter_4 : decode cX7_isLetter 4 = .ok (.iload_n 0, 1) := by decide +kernel
theorem dX7_isLetter_5 : decode cX7_isLetter 5 = .ok (.bipush 8, 2) := by decide +kernel
theorem dX7_isLetter_7 : decode cX7_isLetter 7 = .ok (.if_icmp .ge 7, 3) := by decide +kernel
theorem dX7_isLetter_10 : decode cX7_isLetter 10 = .ok (.iconst 1, 1) := by decide +kernel
theorem dX7_isLetter_11 : decode cX7_isLetter 11 = .ok (.goto 4, 3) := by decide +kernel
theorem dX7_isLetter_14 : decode cX7_isLetter 14 = .ok (.iconst 0, 1) := by decide +kernel
theorem dX7_isLetter_15 : decode cX7_isLetter 15 = .ok (.ireturn, 1) := by decide +kernel
set_option maxRecDepth 20000 in
theorem ggX7_isLetterOrEmpty_X7_isLetter : GoodIn wsX7_isLetterOrEmpty wsX7_isLetter := goodIn_r _ [4] rfl (by decide +kernel)
set_option maxRecDepth 20000 in
theorem gX7_isLetterOrEmpty_X7_isLetter : GoodIn wsX7_isLetterOrEmpty (va_wsS RX7 55 yX7_isLetter wsX7_isLetter) := goodIn_app (goodIn_of _ (by decide +kernel)) ggX7_isLetterOrEmpty_X7_isLetter
theorem dX7_isLetterOrEmpty_0 : decode cX7_isLetterOrEmpty 0 = .ok (.iload_n 0, 1) := by decide +kernel
theorem dX7_isLetterOrEmpty_1 : decode cX7_isLetterOrEmpty 1 = .ok (.invokestatic 55, 3) := by decide +kernel
theorem dX7_isLetterOrEmpty_4 : decode cX7_isLetterOrEmpty 4 = .ok (.ifCond .ne 9, 3) := by decide +kernel
theorem dX7_isLetterOrEmpty_7 : decode cX7_isLetterOrEmpty 7 = .ok (.iload_n 0, 1) := by decide +kernel
theorem dX7_isLetterOrEmpty_8 : decode cX7_isLetterOrEmpty 8 = .ok (.bipush 8, 2) := by decide +kernel
theorem dX7_isLetterOrEmpty_10 : decode cX7_isLetterOrEmpty 10 = .ok (.if_icmp .ne 7, 3) := by decide +kernel
theorem dX7_isLetterOrEmpty_13 : decode cX7_isLetterOrEmpty 13 = .ok (.iconst 1, 1) := by decide +kernel
theorem dX7_isLetterOrEmpty_14 : decode cX7_isLetterOrEmpty 14 = .ok (.goto 4, 3) := by decide +kernel
theorem dX7_isLetterOrEmpty_17 : decode cX7_isLetterOrEmpty 17 = .ok (.iconst 0, 1) := by decide +kernel
theorem dX7_isLetterOrEmpty_18 : decode cX7_isLetterOrEmpty 18 = .ok (.ireturn, 1) := by decide +kernel
set_option maxRecDepth 20000 in
theorem ggX7_isLetterOrAny_X7_isLetter : GoodIn wsX7_isLetterOrAny wsX7_isLetter := goodIn_r _ [4] rfl (by decide +kernel)
set_option maxRecDepth 20000 in
theorem gX7_isLetterOrAny_X7_isLetter : GoodIn wsX7_isLetterOrAny (va_wsS RX7 55 yX7_isLetter wsX7_isLetter) := goodIn_app (goodIn_of _ (by decide +kernel)) ggX7_isLetterOrAny_X7_isLetter
theorem dX7_isLetterOrAny_0 : decode cX7_isLetterOrAny 0 = .ok (.iload_n 0, 1) := by decide +kernel
theorem dX7_isLetterOrAny_1 : decode cX7_isLetterOrAny 1 = .ok (.invokestatic 55, 3) := by decide +kernel
theorem dX7_isLetterOrAny_4 : decode cX7_isLetterOrAny 4 = .ok (.ifCond .ne 8, 3) := by decide +kernel
theorem dX7_isLetterOrAny_7 : decode cX7_isLetterOrAny 7 = .ok (.iload_n 0, 1) := by decide +kernel
theorem dX7_isLetterOrAny_8 : decode cX7_isLetterOrAny 8 = .ok (.iconst (-1), 1) := by decide +kernel
theorem dX7_isLetterOrAny_9 : decode cX7_isLetterOrAny 9 = .ok (.if_icmp .ne 7, 3) := by decide +kernel
theorem dX7_isLetterOrAny_12 : decode cX7_isLetterOrAny 12 = .ok (.iconst 1, 1) := by decide +kernel
theorem dX7_isLetterOrAny_13 : decode cX7_isLetterOrAny 13 = .ok (.goto 4, 3) := by decide +kernel
theorem dX7_isLetterOrAny_16 : decode cX7_isLetterOrAny 16 = .ok (.iconst 0, 1) := by decide +kernel
theorem dX7_isLetterOrAny_17 : decode cX7_isLetterOrAny 17 = .ok (.ireturn, 1) := by decide +kernel
set_option maxRecDepth 20000 in
theorem ggX7_needRule_X7_isLetter : GoodIn wsX7_needRule wsX7_isLetter := goodIn_r _ [6] rfl (by decide +kernel)
set_option maxRecDepth 20000 in
theorem gX7_needRule_X7_isLetter : GoodIn wsX7_needRule (va_wsS RX7 55 yX7_isLetter wsX7_isLetter) := goodIn_app (goodIn_of _ (by decide +kernel)) ggX7_needRule_X7_isLetter
set_option maxRecDepth 20000 in
theorem ggX7_needRule_X7_isLetterOrEmpty : GoodIn wsX7_needRule wsX7_isLetterOrEmpty := goodIn_r _ [9, 3, 4, 5, 6] rfl (by decide +kernel)
set_option maxRecDepth 20000 in
theorem gX7_needRule_X7_isLetterOrEmpty : GoodIn wsX7_needRule (va_wsS RX7 71 yX7_isLetterOrEmpty wsX7_isLetterOrEmpty) := goodIn_app (goodIn_of _ (by decide +kernel)) ggX7_needRule_X7_isLetterOrEmpty
set_option maxRecDepth 20000 in
theorem ggX7_needRule_X7_isLetterOrAny : GoodIn wsX7_needRule wsX7_isLetterOrAny := goodIn_r _ [12, 3, 4, 5, 6] rfl (by decide +kernel)
set_option maxRecDepth 20000 in
theorem gX7_needRule_X7_isLetterOrAny : GoodIn wsX7_needRule (va_wsS RX7 263 yX7_isLetterOrAny wsX7_isLetterOrAny) := goodIn_app (goodIn_of _ (by decide +kernel)) ggX7_needRule_X7_isLetterOrAny
theorem dX7_needRule_0 : decode cX7_needRule 0 = .ok (.iload_n 0, 1) := by decide +kernel
theorem dX7_needRule_1 : decode cX7_needRule 1 = .ok (.invokestatic 55, 3) := by decide +kernel
theorem dX7_needRule_4 : decode cX7_needRule 4 = .ok (.ifCond .eq 24, 3) := by decide +kernel
theorem dX7_needRule_7 : decode cX7_needRule 7 = .ok (.iload_n 1, 1) := by decide +kernel
theorem dX7_needRule_8 : decode cX7_needRule 8 = .ok (.invokestatic 71, 3) := by decide +kernel
theorem dX7_needRule_11 : decode cX7_needRule 11 = .ok (.ifCond .eq 17, 3) := by decide +kernel
theorem dX7_needRule_14 : decode cX7_needRule 14 = .ok (.iload_n 2, 1) := by decide +kernel
theorem dX7_needRule_15 : decode cX7_needRule 15 = .ok (.invokestatic 263, 3) := by decide +kernel
theorem dX7_needRule_18 : decode cX7_needRule 18 = .ok (.ifCond .eq 10, 3) := by decide +kernel
theorem dX7_needRule_21 : decode cX7_needRule 21 = .ok (.iload_n 3, 1) := by decide +kernel
theorem dX7_needRule_22 : decode cX7_needRule 22 = .ok (.invokestatic 263, 3) := by decide +kernel
theorem dX7_needRule_25 : decode cX7_needRule 25 = .ok (.ifCond .ne 14, 3) := by decide +kernel
theorem dX7_needRule_28 : decode cX7_needRule 28 = .ok (.new 59, 3) := by decide +kernel
theorem dX7_needRule_31 : decode cX7_needRule 31 = .ok (.dup, 1) := by decide +kernel
theorem dX7_needRule_32 : decode cX7_needRule 32 = .ok (.ldc_w 266, 3) := by decide +kernel
theorem dX7_needRule_35 : decode cX7_needRule 35 = .ok (.invokespecial 63, 3) := by decide +kernel
theorem dX7_needRule_38 : decode cX7_needRule 38 = .ok (.athrow, 1) := by decide +kernel
theorem dX7_needRule_39 : decode cX7_needRule 39 = .ok (.return_, 1) := by decide +kernel
theorem dX7_needPlace_0 : decode cX7_needPlace 0 = .ok (.iload_n 0, 1) := by decide +kernel
theorem dX7_needPlace_1 : decode cX7_needPlace 1 = .ok (.ifCond .ge 14, 3) := by decide +kernel
theorem dX7_needPlace_4 : decode cX7_needPlace 4 = .ok (.new 201, 3) := by decide +kernel
theorem dX7_needPlace_7 : decode cX7_needPlace 7 = .ok (.dup, 1) := by decide +kernel
theorem dX7_needPlace_8 : decode cX7_needPlace 8 = .ok (.ldc_w 268, 3) := by decide +kernel
theorem dX7_needPlace_11 : decode cX7_needPlace 11 = .ok (.invokespecial 205, 3) := by decide +kernel
theorem dX7_needPlace_14 : decode cX7_needPlace 14 = .ok (.athrow, 1) := by decide +kernel
theorem dX7_needPlace_15 : decode cX7_needPlace 15 = .ok (.return_, 1) := by decide +kernel
theorem dX7_needSets_0 : decode cX7_needSets 0 = .ok (.iload_n 0, 1) := by decide +kernel
theorem dX7_needSets_1 : decode cX7_needSets 1 = .ok (.ifCond .ne 14, 3) := by decide +kernel
theorem dX7_needSets_4 : decode cX7_needSets 4 = .ok (.new 66, 3) := by decide +kernel
theorem dX7_needSets_7 : decode cX7_needSets 7 = .ok (.dup, 1) := by decide +kernel
theorem dX7_needSets_8 : decode cX7_needSets 8 = .ok (.ldc_w 270, 3) := by decide +kernel
theorem dX7_needSets_11 : decode cX7_needSets 11 = .ok (.invokespecial 70, 3) := by decide +kernel
theorem dX7_needSets_14 : decode cX7_needSets 14 = .ok (.athrow, 1) := by decide +kernel
theorem dX7_needSets_15 : decode cX7_needSets 15 = .ok (.return_, 1) := by decide +kernel
theorem dX7_needStates_0 : decode cX7_needStates 0 = .ok (.iload_n 0, 1) := by decide +kernel
theorem dX7_needStates_1 : decode cX7_needStates 1 = .ok (.ifCond .ne 14, 3) := by decide +kernel
theorem dX7_needStates_4 : decode cX7_needStates 4 = .ok (.new 66, 3) := by decide +kernel
theorem dX7_needStates_7 : decode cX7_needStates 7 = .ok (.dup, 1) := by decide +kernel
theorem dX7_needStates_8 : decode cX7_needStates 8 = .ok (.ldc_w 272, 3) := by decide +kernel
theorem dX7_needStates_11 : decode cX7_needStates 11 = .ok (.invokespecial 70, 3) := by decide +kernel
theorem dX7_needStates_14 : decode cX7_needStates 14 = .ok (.athrow, 1) := by decide +kernel
theorem dX7_needStates_15 : decode cX7_needStates 15 = .ok (.return_, 1) := by decide +kernel
theorem dX7_needMachine_0 : decode cX7_needMachine 0 = .ok (.iload_n 1, 1) := by decide +kernel
theorem dX7_needMachine_1 : decode cX7_needMachine 1 = .ok (.ifCond .lt 11, 3) := by decide +kernel
theorem dX7_needMachine_4 : decode cX7_needMachine 4 = .ok (.iload_n 1, 1) := by decide +kernel
theorem dX7_needMachine_5 : decode cX7_needMachine 5 = .ok (.aload_n 0, 1) := by decide +kernel
theorem dX7_needMachine_6 : decode cX7_needMachine 6 = .ok (.getfield 24, 3) := by decide +kernel
theorem dX7_needMachine_9 : decode cX7_needMachine 9 = .ok (.if_icmp .lt 14, 3) := by decide +kernel
theorem dX7_needMachine_12 : decode cX7_needMachine 12 = .ok (.new 201, 3) := by decide +kernel
theorem dX7_needMachine_15 : decode cX7_needMachine 15 = .ok (.dup, 1) := by decide +kernel
theorem dX7_needMachine_16 : decode cX7_needMachine 16 = .ok (.ldc_w 274, 3) := by decide +kernel
theorem dX7_needMachine_19 : decode cX7_needMachine 19 = .ok (.invokespecial 205, 3) := by decide +kernel
theorem dX7_needMachine_22 : decode cX7_needMachine 22 = .ok (.athrow, 1) := by decide +kernel
theorem dX7_needMachine_23 : decode cX7_needMachine 23 = .ok (.return_, 1) := by decide +kernel
set_option maxRecDepth 20000 in
theorem ggX7_needPlain_X3_hasPlainArcsAlone : GoodIn wsX7_needPlain wsX3_hasPlainArcsAlone := goodIn_r _ [8, 9, 10, 11, 12, 13, 14, 15, 16, 17, 26, 27, 28, 29, 30, 31] rfl (by decide +kernel)
set_option maxRecDepth 20000 in
theorem gX7_needPlain_X3_hasPlainArcsAlone : GoodIn wsX7_needPlain (wsV RX7 217 RX3 yX3_hasPlainArcsAlone wsX3_hasPlainArcsAlone) := goodIn_app (goodIn_of _ (by decide +kernel)) ggX7_needPlain_X3_hasPlainArcsAlone
theorem dX7_needPlain_0 : decode cX7_needPlain 0 = .ok (.aload_n 0, 1) := by decide +kernel
theorem dX7_needPlain_1 : decode cX7_needPlain 1 = .ok (.getfield 19, 3) := by decide +kernel
theorem dX7_needPlain_4 : decode cX7_needPlain 4 = .ok (.iload_n 1, 1) := by decide +kernel
theorem dX7_needPlain_5 : decode cX7_needPlain 5 = .ok (.aaload, 1) := by decide +kernel
theorem dX7_needPlain_6 : decode cX7_needPlain 6 = .ok (.invokevirtual 217, 3) := by decide +kernel
theorem dX7_needPlain_9 : decode cX7_needPlain 9 = .ok (.ifCond .ne 14, 3) := by decide +kernel
theorem dX7_needPlain_12 : decode cX7_needPlain 12 = .ok (.new 66, 3) := by decide +kernel
theorem dX7_needPlain_15 : decode cX7_needPlain 15 = .ok (.dup, 1) := by decide +kernel
theorem dX7_needPlain_16 : decode cX7_needPlain 16 = .ok (.ldc_w 276, 3) := by decide +kernel
theorem dX7_needPlain_19 : decode cX7_needPlain 19 = .ok (.invokespecial 70, 3) := by decide +kernel
theorem dX7_needPlain_22 : decode cX7_needPlain 22 = .ok (.athrow, 1) := by decide +kernel
theorem dX7_needPlain_23 : decode cX7_needPlain 23 = .ok (.return_, 1) := by decide +kernel
set_option maxRecDepth 20000 in
theorem ggX7_keepDraft_X1_trimInto : GoodIn wsX7_keepDraft wsX1_trimInto := goodIn_r _ [10, 11, 12, 13, 14, 15, 16, 17, 18, 19, 9, 20, 21, 22, 23, 24, 25, 26, 27, 28, 29, 30, 31, 32, 33, 34, 35, 36, 37, 38, 39, 40, 41, 42, 43, 44, 45, 46, 47, 48, 49, 50, 51, 52, 53, 54, 55, 56, 57, 58, 59, 60, 61, 62, 63, 64, 65, 66, 67, 68, 69, 70, 71, 72, 73, 74, 75, 76, 77, 78, 79, 80, 81, 82, 83, 84, 85, 86, 87, 88, 89, 90, 91, 92, 93, 94, 95, 96, 105, 106, 107, 108, 109, 110, 111, 112, 113, 114, 115, 116, 117, 118, 119, 120, 121, 122, 123] rfl (by decide +kernel)
set_option maxRecDepth 20000 in
theorem gX7_keepDraft_X1_trimInto : GoodIn wsX7_keepDraft (wsV RX7 280 RX1 yX1_trimInto wsX1_trimInto) := goodIn_app (goodIn_of _ (by decide +kernel)) ggX7_keepDraft_X1_trimInto
theorem dX7_keepDraft_0 : decode cX7_keepDraft 0 = .ok (.aload_n 0, 1) := by decide +kernel
theorem dX7_keepDraft_1 : decode cX7_keepDraft 1 = .ok (.getfield 24, 3) := by decide +kernel
theorem dX7_keepDraft_4 : decode cX7_keepDraft 4 = .ok (.bipush 24, 2) := by decide +kernel
theorem dX7_keepDraft_6 : decode cX7_keepDraft 6 = .ok (.if_icmp .lt 14, 3) := by decide +kernel
theorem dX7_keepDraft_9 : decode cX7_keepDraft 9 = .ok (.new 66, 3) := by decide +kernel
theorem dX7_keepDraft_12 : decode cX7_keepDraft 12 = .ok (.dup, 1) := by decide +kernel
theorem dX7_keepDraft_13 : decode cX7_keepDraft 13 = .ok (.ldc_w 278, 3) := by decide +kernel
theorem dX7_keepDraft_16 : decode cX7_keepDraft 16 = .ok (.invokespecial 70, 3) := by decide +kernel
theorem dX7_keepDraft_19 : decode cX7_keepDraft 19 = .ok (.athrow, 1) := by decide +kernel
theorem dX7_keepDraft_20 : decode cX7_keepDraft 20 = .ok (.aload_n 0, 1) := by decide +kernel
theorem dX7_keepDraft_21 : decode cX7_keepDraft 21 = .ok (.getfield 30, 3) := by decide +kernel
theorem dX7_keepDraft_24 : decode cX7_keepDraft 24 = .ok (.aload_n 0, 1) := by decide +kernel
theorem dX7_keepDraft_25 : decode cX7_keepDraft 25 = .ok (.getfield 19, 3) := by decide +kernel
theorem dX7_keepDraft_28 : decode cX7_keepDraft 28 = .ok (.aload_n 0, 1) := by decide +kernel
theorem dX7_keepDraft_29 : decode cX7_keepDraft 29 = .ok (.getfield 24, 3) := by decide +kernel
theorem dX7_keepDraft_32 : decode cX7_keepDraft 32 = .ok (.aaload, 1) := by decide +kernel
theorem dX7_keepDraft_33 : decode cX7_keepDraft 33 = .ok (.invokevirtual 280, 3) := by decide +kernel
theorem dX7_keepDraft_36 : decode cX7_keepDraft 36 = .ok (.ifCond .ne 14, 3) := by decide +kernel
theorem dX7_keepDraft_39 : decode cX7_keepDraft 39 = .ok (.new 66, 3) := by decide +kernel
theorem dX7_keepDraft_42 : decode cX7_keepDraft 42 = .ok (.dup, 1) := by decide +kernel
theorem dX7_keepDraft_43 : decode cX7_keepDraft 43 = .ok (.ldc_w 283, 3) := by decide +kernel
theorem dX7_keepDraft_46 : decode cX7_keepDraft 46 = .ok (.invokespecial 70, 3) := by decide +kernel
theorem dX7_keepDraft_49 : decode cX7_keepDraft 49 = .ok (.athrow, 1) := by decide +kernel
theorem dX7_keepDraft_50 : decode cX7_keepDraft 50 = .ok (.aload_n 0, 1) := by decide +kernel
theorem dX7_keepDraft_51 : decode cX7_keepDraft 51 = .ok (.dup, 1) := by decide +kernel
theorem dX7_keepDraft_52 : decode cX7_keepDraft 52 = .ok (.getfield 24, 3) := by decide +kernel
theorem dX7_keepDraft_55 : decode cX7_keepDraft 55 = .ok (.iconst 1, 1) := by decide +kernel
theorem dX7_keepDraft_56 : decode cX7_keepDraft 56 = .ok (.iadd, 1) := by decide +kernel
theorem dX7_keepDraft_57 : decode cX7_keepDraft 57 = .ok (.putfield 24, 3) := by decide +kernel
theorem dX7_keepDraft_60 : decode cX7_keepDraft 60 = .ok (.aload_n 0, 1) := by decide +kernel
theorem dX7_keepDraft_61 : decode cX7_keepDraft 61 = .ok (.getfield 24, 3) := by decide +kernel
theorem dX7_keepDraft_64 : decode cX7_keepDraft 64 = .ok (.iconst 1, 1) := by decide +kernel
theorem dX7_keepDraft_65 : decode cX7_keepDraft 65 = .ok (.isub, 1) := by decide +kernel
theorem dX7_keepDraft_66 : decode cX7_keepDraft 66 = .ok (.ireturn, 1) := by decide +kernel
set_option maxRecDepth 20000 in
theorem ggX7_addMeetings_X7_lowerOf : GoodIn wsX7_addMeetings wsX7_lowerOf := goodIn_r _ [11] rfl (by decide +kernel)
set_option maxRecDepth 20000 in
theorem gX7_addMeetings_X7_lowerOf : GoodIn wsX7_addMeetings (va_wsS RX7 129 yX7_lowerOf wsX7_lowerOf) := goodIn_app (goodIn_of _ (by decide +kernel)) ggX7_addMeetings_X7_lowerOf
set_option maxRecDepth 20000 in
theorem ggX7_addMeetings_X7_upperOf : GoodIn wsX7_addMeetings wsX7_upperOf := goodIn_r _ [14] rfl (by decide +kernel)
set_option maxRecDepth 20000 in
theorem gX7_addMeetings_X7_upperOf : GoodIn wsX7_addMeetings (va_wsS RX7 132 yX7_upperOf wsX7_upperOf) := goodIn_app (goodIn_of _ (by decide +kernel)) ggX7_addMeetings_X7_upperOf
set_option maxRecDepth 20000 in
theorem ggX7_addMeetings_X7_fromOf : GoodIn wsX7_addMeetings wsX7_fromOf := goodIn_r _ [17] rfl (by decide +kernel)
set_option maxRecDepth 20000 in
theorem gX7_addMeetings_X7_fromOf : GoodIn wsX7_addMeetings (va_wsS RX7 125 yX7_fromOf wsX7_fromOf) := goodIn_app (goodIn_of _ (by decide +kernel)) ggX7_addMeetings_X7_fromOf
set_option maxRecDepth 20000 in
theorem ggX7_addMeetings_X7_toOf : GoodIn wsX7_addMeetings wsX7_toOf := goodIn_r _ [20] rfl (by decide +kernel)
set_option maxRecDepth 20000 in
theorem gX7_addMeetings_X7_toOf : GoodIn wsX7_addMeetings (va_wsS RX7 138 yX7_toOf wsX7_toOf) := goodIn_app (goodIn_of _ (by decide +kernel)) ggX7_addMeetings_X7_toOf
set_option maxRecDepth 20000 in
theorem ggX7_addMeetings_X1_addArc : GoodIn wsX7_addMeetings wsX1_addArc := goodIn_r _ [25, 26, 27, 28, 29, 30, 10, 31, 46, 47, 48, 49, 50, 51, 52, 53, 54, 55, 56, 57, 58] rfl (by decide +kernel)
set_option maxRecDepth 20000 in
theorem gX7_addMeetings_X1_addArc : GoodIn wsX7_addMeetings (wsV RX7 80 RX1 yX1_addArc wsX1_addArc) := goodIn_app (goodIn_of _ (by decide +kernel)) ggX7_addMeetings_X1_addArc
theorem dX7_addMeetings_0 : decode cX7_addMeetings 0 = .ok (.iconst 0, 1) := by decide +kernel
theorem dX7_addMeetings_1 : decode cX7_addMeetings 1 = .ok (.istore_n 3, 1) := by decide +kernel
theorem dX7_addMeetings_2 : decode cX7_addMeetings 2 = .ok (.iload_n 3, 1) := by decide +kernel
theorem dX7_addMeetings_3 : decode cX7_addMeetings 3 = .ok (.aload_n 1, 1) := by decide +kernel
theorem dX7_addMeetings_4 : decode cX7_addMeetings 4 = .ok (.getfield 115, 3) := by decide +kernel
theorem dX7_addMeetings_7 : decode cX7_addMeetings 7 = .ok (.getfield 119, 3) := by decide +kernel
theorem dX7_addMeetings_10 : decode cX7_addMeetings 10 = .ok (.if_icmp .ge 159, 3) := by decide +kernel
theorem dX7_addMeetings_13 : decode cX7_addMeetings 13 = .ok (.aload_n 1, 1) := by decide +kernel
theorem dX7_addMeetings_14 : decode cX7_addMeetings 14 = .ok (.getfield 115, 3) := by decide +kernel
theorem dX7_addMeetings_17 : decode cX7_addMeetings 17 = .ok (.getfield 122, 3) := by decide +kernel
theorem dX7_addMeetings_20 : decode cX7_addMeetings 20 = .ok (.iload_n 3, 1) := by decide +kernel
theorem dX7_addMeetings_21 : decode cX7_addMeetings 21 = .ok (.iaload, 1) := by decide +kernel
theorem dX7_addMeetings_22 : decode cX7_addMeetings 22 = .ok (.istore 4, 2) := by decide +kernel
theorem dX7_addMeetings_24 : decode cX7_addMeetings 24 = .ok (.iconst 0, 1) := by decide +kernel
theorem dX7_addMeetings_25 : decode cX7_addMeetings 25 = .ok (.istore 5, 2) := by decide +kernel
theorem dX7_addMeetings_27 : decode cX7_addMeetings 27 = .ok (.iload 5, 2) := by decide +kernel
theorem dX7_addMeetings_29 : decode cX7_addMeetings 29 = .ok (.aload_n 2, 1) := by decide +kernel
theorem dX7_addMeetings_30 : decode cX7_addMeetings 30 = .ok (.getfield 115, 3) := by decide +kernel
theorem dX7_addMeetings_33 : decode cX7_addMeetings 33 = .ok (.getfield 119, 3) := by decide +kernel
theorem dX7_addMeetings_36 : decode cX7_addMeetings 36 = .ok (.if_icmp .ge 127, 3) := by decide +kernel
theorem dX7_addMeetings_39 : decode cX7_addMeetings 39 = .ok (.aload_n 2, 1) := by decide +kernel
theorem dX7_addMeetings_40 : decode cX7_addMeetings 40 = .ok (.getfield 115, 3) := by decide +kernel
theorem dX7_addMeetings_43 : decode cX7_addMeetings 43 = .ok (.getfield 122, 3) := by decide +kernel
theorem dX7_addMeetings_46 : decode cX7_addMeetings 46 = .ok (.iload 5, 2) := by decide +kernel
theorem dX7_addMeetings_48 : decode cX7_addMeetings 48 = .ok (.iaload, 1) := by decide +kernel
theorem dX7_addMeetings_49 : decode cX7_addMeetings 49 = .ok (.istore 6, 2) := by decide +kernel
theorem dX7_addMeetings_51 : decode cX7_addMeetings 51 = .ok (.iload 4, 2) := by decide +kernel
theorem dX7_addMeetings_53 : decode cX7_addMeetings 53 = .ok (.invokestatic 129, 3) := by decide +kernel
theorem dX7_addMeetings_56 : decode cX7_addMeetings 56 = .ok (.bipush 8, 2) := by decide +kernel
theorem dX7_addMeetings_58 : decode cX7_addMeetings 58 = .ok (.if_icmp .eq 99, 3) := by decide +kernel
theorem dX7_addMeetings_61 : decode cX7_addMeetings 61 = .ok (.iload 4, 2) := by decide +kernel
theorem dX7_addMeetings_63 : decode cX7_addMeetings 63 = .ok (.invokestatic 129, 3) := by decide +kernel
theorem dX7_addMeetings_66 : decode cX7_addMeetings 66 = .ok (.iload 6, 2) := by decide +kernel
theorem dX7_addMeetings_68 : decode cX7_addMeetings 68 = .ok (.invokestatic 132, 3) := by decide +kernel
theorem dX7_addMeetings_71 : decode cX7_addMeetings 71 = .ok (.if_icmp .ne 86, 3) := by decide +kernel
theorem dX7_addMeetings_74 : decode cX7_addMeetings 74 = .ok (.aload_n 1, 1) := by decide +kernel
theorem dX7_addMeetings_75 : decode cX7_addMeetings 75 = .ok (.getfield 115, 3) := by decide +kernel
theorem dX7_addMeetings_78 : decode cX7_addMeetings 78 = .ok (.getfield 135, 3) := by decide +kernel
theorem dX7_addMeetings_81 : decode cX7_addMeetings 81 = .ok (.iload_n 3, 1) := by decide +kernel
theorem dX7_addMeetings_82 : decode cX7_addMeetings 82 = .ok (.iaload, 1) := by decide +kernel
theorem dX7_addMeetings_83 : decode cX7_addMeetings 83 = .ok (.aload_n 2, 1) := by decide +kernel
theorem dX7_addMeetings_84 : decode cX7_addMeetings 84 = .ok (.getfield 115, 3) := by decide +kernel
theorem dX7_addMeetings_87 : decode cX7_addMeetings 87 = .ok (.getfield 135, 3) := by decide +kernel
theorem dX7_addMeetings_90 : decode cX7_addMeetings 90 = .ok (.iload 5, 2) := by decide +kernel
theorem dX7_addMeetings_92 : decode cX7_addMeetings 92 = .ok (.iaload, 1) := by decide +kernel
theorem dX7_addMeetings_93 : decode cX7_addMeetings 93 = .ok (.iadd, 1) := by decide +kernel
theorem dX7_addMeetings_94 : decode cX7_addMeetings 94 = .ok (.istore 7, 2) := by decide +kernel
theorem dX7_addMeetings_96 : decode cX7_addMeetings 96 = .ok (.iload 7, 2) := by decide +kernel
theorem dX7_addMeetings_98 : decode cX7_addMeetings 98 = .ok (.ldc_w 285, 3) := by decide +kernel
theorem dX7_addMeetings_101 : decode cX7_addMeetings 101 = .ok (.if_icmp .le 5, 3) := by decide +kernel
theorem dX7_addMeetings_104 : decode cX7_addMeetings 104 = .ok (.iconst 0, 1) := by decide +kernel
theorem dX7_addMeetings_105 : decode cX7_addMeetings 105 = .ok (.ireturn, 1) := by decide +kernel
theorem dX7_addMeetings_106 : decode cX7_addMeetings 106 = .ok (.aload_n 0, 1) := by decide +kernel
theorem dX7_addMeetings_107 : decode cX7_addMeetings 107 = .ok (.getfield 30, 3) := by decide +kernel
theorem dX7_addMeetings_110 : decode cX7_addMeetings 110 = .ok (.iload 4, 2) := by decide +kernel
theorem dX7_addMeetings_112 : decode cX7_addMeetings 112 = .ok (.invokestatic 125, 3) := by decide +kernel
theorem dX7_addMeetings_115 : decode cX7_addMeetings 115 = .ok (.aload_n 2, 1) := by decide +kernel
theorem dX7_addMeetings_116 : decode cX7_addMeetings 116 = .ok (.getfield 95, 3) := by decide +kernel
theorem dX7_addMeetings_119 : decode cX7_addMeetings 119 = .ok (.imul, 1) := by decide +kernel
theorem dX7_addMeetings_120 : decode cX7_addMeetings 120 = .ok (.iload 6, 2) := by decide +kernel
theorem dX7_addMeetings_122 : decode cX7_addMeetings 122 = .ok (.invokestatic 125, 3) := by decide +kernel
theorem dX7_addMeetings_125 : decode cX7_addMeetings 125 = .ok (.iadd, 1) := by decide +kernel
theorem dX7_addMeetings_126 : decode cX7_addMeetings 126 = .ok (.iload 4, 2) := by decide +kernel
theorem dX7_addMeetings_128 : decode cX7_addMeetings 128 = .ok (.invokestatic 132, 3) := by decide +kernel
theorem dX7_addMeetings_131 : decode cX7_addMeetings 131 = .ok (.iload 6, 2) := by decide +kernel
theorem dX7_addMeetings_133 : decode cX7_addMeetings 133 = .ok (.invokestatic 129, 3) := by decide +kernel
theorem dX7_addMeetings_136 : decode cX7_addMeetings 136 = .ok (.iload 7, 2) := by decide +kernel
theorem dX7_addMeetings_138 : decode cX7_addMeetings 138 = .ok (.iload 4, 2) := by decide +kernel
theorem dX7_addMeetings_140 : decode cX7_addMeetings 140 = .ok (.invokestatic 138, 3) := by decide +kernel
theorem dX7_addMeetings_143 : decode cX7_addMeetings 143 = .ok (.aload_n 2, 1) := by decide +kernel
theorem dX7_addMeetings_144 : decode cX7_addMeetings 144 = .ok (.getfield 95, 3) := by decide +kernel
theorem dX7_addMeetings_147 : decode cX7_addMeetings 147 = .ok (.imul, 1) := by decide +kernel
theorem dX7_addMeetings_148 : decode cX7_addMeetings 148 = .ok (.iload 6, 2) := by decide +kernel
theorem dX7_addMeetings_150 : decode cX7_addMeetings 150 = .ok (.invokestatic 138, 3) := by decide +kernel
theorem dX7_addMeetings_153 : decode cX7_addMeetings 153 = .ok (.iadd, 1) := by decide +kernel
theorem dX7_addMeetings_154 : decode cX7_addMeetings 154 = .ok (.invokevirtual 80, 3) := by decide +kernel
theorem dX7_addMeetings_157 : decode cX7_addMeetings 157 = .ok (.iinc 5 1, 3) := by decide +kernel
theorem dX7_addMeetings_160 : decode cX7_addMeetings 160 = .ok (.goto (-133), 3) := by decide +kernel
theorem dX7_addMeetings_163 : decode cX7_addMeetings 163 = .ok (.iinc 3 1, 3) := by decide +kernel
theorem dX7_addMeetings_166 : decode cX7_addMeetings 166 = .ok (.goto (-164), 3) := by decide +kernel
theorem dX7_addMeetings_169 : decode cX7_addMeetings 169 = .ok (.iconst 1, 1) := by decide +kernel
theorem dX7_addMeetings_170 : decode cX7_addMeetings 170 = .ok (.ireturn, 1) := by decide +kernel
set_option maxRecDepth 20000 in
theorem ggX7_addMovesOfOne_X7_lowerOf : GoodIn wsX7_addMovesOfOne wsX7_lowerOf := goodIn_r _ [9] rfl (by decide +kernel)
set_option maxRecDepth 20000 in
theorem gX7_addMovesOfOne_X7_lowerOf : GoodIn wsX7_addMovesOfOne (va_wsS RX7 129 yX7_lowerOf wsX7_lowerOf) := goodIn_app (goodIn_of _ (by decide +kernel)) ggX7_addMovesOfOne_X7_lowerOf
set_option maxRecDepth 20000 in
theorem ggX7_addMovesOfOne_X7_fromOf : GoodIn wsX7_addMovesOfOne wsX7_fromOf := goodIn_r _ [12] rfl (by decide +kernel)
set_option maxRecDepth 20000 in
theorem gX7_addMovesOfOne_X7_fromOf : GoodIn wsX7_addMovesOfOne (va_wsS RX7 125 yX7_fromOf wsX7_fromOf) := goodIn_app (goodIn_of _ (by decide +kernel)) ggX7_addMovesOfOne_X7_fromOf
set_option maxRecDepth 20000 in
theorem ggX7_addMovesOfOne_X7_upperOf : GoodIn wsX7_addMovesOfOne wsX7_upperOf := goodIn_r _ [15] rfl (by decide +kernel)
set_option maxRecDepth 20000 in
theorem gX7_addMovesOfOne_X7_upperOf : GoodIn wsX7_addMovesOfOne (va_wsS RX7 132 yX7_upperOf wsX7_upperOf) := goodIn_app (goodIn_of _ (by decide +kernel)) ggX7_addMovesOfOne_X7_upperOf
set_option maxRecDepth 20000 in
theorem ggX7_addMovesOfOne_X7_toOf : GoodIn wsX7_addMovesOfOne wsX7_toOf := goodIn_r _ [18] rfl (by decide +kernel)
set_option maxRecDepth 20000 in
theorem gX7_addMovesOfOne_X7_toOf : GoodIn wsX7_addMovesOfOne (va_wsS RX7 138 yX7_toOf wsX7_toOf) := goodIn_app (goodIn_of _ (by decide +kernel)) ggX7_addMovesOfOne_X7_toOf
set_option maxRecDepth 20000 in
theorem ggX7_addMovesOfOne_X1_addArc : GoodIn wsX7_addMovesOfOne wsX1_addArc := goodIn_r _ [23, 24, 25, 26, 27, 28, 8, 29, 44, 45, 46, 47, 48, 49, 50, 51, 52, 53, 54, 55, 56] rfl (by decide +kernel)
set_option maxRecDepth 20000 in
theorem gX7_addMovesOfOne_X1_addArc : GoodIn wsX7_addMovesOfOne (wsV RX7 80 RX1 yX1_addArc wsX1_addArc) := goodIn_app (goodIn_of _ (by decide +kernel)) ggX7_addMovesOfOne_X1_addArc
theorem dX7_addMovesOfOne_0 : decode cX7_addMovesOfOne 0 = .ok (.iconst 0, 1) := by decide +kernel
theorem dX7_addMovesOfOne_1 : decode cX7_addMovesOfOne 1 = .ok (.istore_n 3, 1) := by decide +kernel
theorem dX7_addMovesOfOne_2 : decode cX7_addMovesOfOne 2 = .ok (.iload_n 3, 1) := by decide +kernel
theorem dX7_addMovesOfOne_3 : decode cX7_addMovesOfOne 3 = .ok (.aload_n 1, 1) := by decide +kernel
theorem dX7_addMovesOfOne_4 : decode cX7_addMovesOfOne 4 = .ok (.getfield 115, 3) := by decide +kernel
theorem dX7_addMovesOfOne_7 : decode cX7_addMovesOfOne 7 = .ok (.getfield 119, 3) := by decide +kernel
theorem dX7_addMovesOfOne_10 : decode cX7_addMovesOfOne 10 = .ok (.if_icmp .ge 88, 3) := by decide +kernel
theorem dX7_addMovesOfOne_13 : decode cX7_addMovesOfOne 13 = .ok (.aload_n 1, 1) := by decide +kernel
theorem dX7_addMovesOfOne_14 : decode cX7_addMovesOfOne 14 = .ok (.getfield 115, 3) := by decide +kernel
theorem dX7_addMovesOfOne_17 : decode cX7_addMovesOfOne 17 = .ok (.getfield 122, 3) := by decide +kernel
theorem dX7_addMovesOfOne_20 : decode cX7_addMovesOfOne 20 = .ok (.iload_n 3, 1) := by decide +kernel
theorem dX7_addMovesOfOne_21 : decode cX7_addMovesOfOne 21 = .ok (.iaload, 1) := by decide +kernel
theorem dX7_addMovesOfOne_22 : decode cX7_addMovesOfOne 22 = .ok (.istore 4, 2) := by decide +kernel
theorem dX7_addMovesOfOne_24 : decode cX7_addMovesOfOne 24 = .ok (.iload 4, 2) := by decide +kernel
theorem dX7_addMovesOfOne_26 : decode cX7_addMovesOfOne 26 = .ok (.invokestatic 129, 3) := by decide +kernel
theorem dX7_addMovesOfOne_29 : decode cX7_addMovesOfOne 29 = .ok (.bipush 8, 2) := by decide +kernel
theorem dX7_addMovesOfOne_31 : decode cX7_addMovesOfOne 31 = .ok (.if_icmp .ne 61, 3) := by decide +kernel
theorem dX7_addMovesOfOne_34 : decode cX7_addMovesOfOne 34 = .ok (.iconst 0, 1) := by decide +kernel
theorem dX7_addMovesOfOne_35 : decode cX7_addMovesOfOne 35 = .ok (.istore 5, 2) := by decide +kernel
theorem dX7_addMovesOfOne_37 : decode cX7_addMovesOfOne 37 = .ok (.iload 5, 2) := by decide +kernel
theorem dX7_addMovesOfOne_39 : decode cX7_addMovesOfOne 39 = .ok (.iload_n 2, 1) := by decide +kernel
theorem dX7_addMovesOfOne_40 : decode cX7_addMovesOfOne 40 = .ok (.if_icmp .ge 52, 3) := by decide +kernel
theorem dX7_addMovesOfOne_43 : decode cX7_addMovesOfOne 43 = .ok (.aload_n 0, 1) := by decide +kernel
theorem dX7_addMovesOfOne_44 : decode cX7_addMovesOfOne 44 = .ok (.getfield 30, 3) := by decide +kernel
theorem dX7_addMovesOfOne_47 : decode cX7_addMovesOfOne 47 = .ok (.iload 4, 2) := by decide +kernel
theorem dX7_addMovesOfOne_49 : decode cX7_addMovesOfOne 49 = .ok (.invokestatic 125, 3) := by decide +kernel
theorem dX7_addMovesOfOne_52 : decode cX7_addMovesOfOne 52 = .ok (.iload_n 2, 1) := by decide +kernel
theorem dX7_addMovesOfOne_53 : decode cX7_addMovesOfOne 53 = .ok (.imul, 1) := by decide +kernel
theorem dX7_addMovesOfOne_54 : decode cX7_addMovesOfOne 54 = .ok (.iload 5, 2) := by decide +kernel
theorem dX7_addMovesOfOne_56 : decode cX7_addMovesOfOne 56 = .ok (.iadd, 1) := by decide +kernel
theorem dX7_addMovesOfOne_57 : decode cX7_addMovesOfOne 57 = .ok (.iload 4, 2) := by decide +kernel
theorem dX7_addMovesOfOne_59 : decode cX7_addMovesOfOne 59 = .ok (.invokestatic 132, 3) := by decide +kernel
theorem dX7_addMovesOfOne_62 : decode cX7_addMovesOfOne 62 = .ok (.bipush 8, 2) := by decide +kernel
theorem dX7_addMovesOfOne_64 : decode cX7_addMovesOfOne 64 = .ok (.aload_n 1, 1) := by decide +kernel
theorem dX7_addMovesOfOne_65 : decode cX7_addMovesOfOne 65 = .ok (.getfield 115, 3) := by decide +kernel
theorem dX7_addMovesOfOne_68 : decode cX7_addMovesOfOne 68 = .ok (.getfield 135, 3) := by decide +kernel
theorem dX7_addMovesOfOne_71 : decode cX7_addMovesOfOne 71 = .ok (.iload_n 3, 1) := by decide +kernel
theorem dX7_addMovesOfOne_72 : decode cX7_addMovesOfOne 72 = .ok (.iaload, 1) := by decide +kernel
theorem dX7_addMovesOfOne_73 : decode cX7_addMovesOfOne 73 = .ok (.iload 4, 2) := by decide +kernel
theorem dX7_addMovesOfOne_75 : decode cX7_addMovesOfOne 75 = .ok (.invokestatic 138, 3) := by decide +kernel
theorem dX7_addMovesOfOne_78 : decode cX7_addMovesOfOne 78 = .ok (.iload_n 2, 1) := by decide +kernel
theorem dX7_addMovesOfOne_79 : decode cX7_addMovesOfOne 79 = .ok (.imul, 1) := by decide +kernel
theorem dX7_addMovesOfOne_80 : decode cX7_addMovesOfOne 80 = .ok (.iload 5, 2) := by decide +kernel
theorem dX7_addMovesOfOne_82 : decode cX7_addMovesOfOne 82 = .ok (.iadd, 1) := by decide +kernel
theorem dX7_addMovesOfOne_83 : decode cX7_addMovesOfOne 83 = .ok (.invokevirtual 80, 3) := by decide +kernel
theorem dX7_addMovesOfOne_86 : decode cX7_addMovesOfOne 86 = .ok (.iinc 5 1, 3) := by decide +kernel
theorem dX7_addMovesOfOne_89 : decode cX7_addMovesOfOne 89 = .ok (.goto (-52), 3) := by decide +kernel
theorem dX7_addMovesOfOne_92 : decode cX7_addMovesOfOne 92 = .ok (.iinc 3 1, 3) := by decide +kernel
theorem dX7_addMovesOfOne_95 : decode cX7_addMovesOfOne 95 = .ok (.goto (-93), 3) := by decide +kernel
theorem dX7_addMovesOfOne_98 : decode cX7_addMovesOfOne 98 = .ok (.return_, 1) := by decide +kernel
set_option maxRecDepth 20000 in
theorem ggX7_addMovesOfOther_X7_upperOf : GoodIn wsX7_addMovesOfOther wsX7_upperOf := goodIn_r _ [10] rfl (by decide +kernel)
set_option maxRecDepth 20000 in
theorem gX7_addMovesOfOther_X7_upperOf : GoodIn wsX7_addMovesOfOther (va_wsS RX7 132 yX7_upperOf wsX7_upperOf) := goodIn_app (goodIn_of _ (by decide +kernel)) ggX7_addMovesOfOther_X7_upperOf
set_option maxRecDepth 20000 in
theorem ggX7_addMovesOfOther_X7_fromOf : GoodIn wsX7_addMovesOfOther wsX7_fromOf := goodIn_r _ [13] rfl (by decide +kernel)
set_option maxRecDepth 20000 in
theorem gX7_addMovesOfOther_X7_fromOf : GoodIn wsX7_addMovesOfOther (va_wsS RX7 125 yX7_fromOf wsX7_fromOf) := goodIn_app (goodIn_of _ (by decide +kernel)) ggX7_addMovesOfOther_X7_fromOf
set_option maxRecDepth 20000 in
theorem ggX7_addMovesOfOther_X7_lowerOf : GoodIn wsX7_addMovesOfOther wsX7_lowerOf := goodIn_r _ [16] rfl (by decide +kernel)
set_option maxRecDepth 20000 in
theorem gX7_addMovesOfOther_X7_lowerOf : GoodIn wsX7_addMovesOfOther (va_wsS RX7 129 yX7_lowerOf wsX7_lowerOf) := goodIn_app (goodIn_of _ (by decide +kernel)) ggX7_addMovesOfOther_X7_lowerOf
set_option maxRecDepth 20000 in
theorem ggX7_addMovesOfOther_X7_toOf : GoodIn wsX7_addMovesOfOther wsX7_toOf := goodIn_r _ [19] rfl (by decide +kernel)
set_option maxRecDepth 20000 in
theorem gX7_addMovesOfOther_X7_toOf : GoodIn wsX7_addMovesOfOther (va_wsS RX7 138 yX7_toOf wsX7_toOf) := goodIn_app (goodIn_of _ (by decide +kernel)) ggX7_addMovesOfOther_X7_toOf
set_option maxRecDepth 20000 in
theorem ggX7_addMovesOfOther_X1_addArc : GoodIn wsX7_addMovesOfOther wsX1_addArc := goodIn_r _ [24, 25, 26, 27, 28, 29, 9, 30, 45, 46, 47, 48, 49, 50, 51, 52, 53, 54, 55, 56, 57] rfl (by decide +kernel)
set_option maxRecDepth 20000 in
theorem gX7_addMovesOfOther_X1_addArc : GoodIn wsX7_addMovesOfOther (wsV RX7 80 RX1 yX1_addArc wsX1_addArc) := goodIn_app (goodIn_of _ (by decide +kernel)) ggX7_addMovesOfOther_X1_addArc
theorem dX7_addMovesOfOther_0 : decode cX7_addMovesOfOther 0 = .ok (.iconst 0, 1) := by decide +kernel
theorem dX7_addMovesOfOther_1 : decode cX7_addMovesOfOther 1 = .ok (.istore_n 3, 1) := by decide +kernel
theorem dX7_addMovesOfOther_2 : decode cX7_addMovesOfOther 2 = .ok (.iload_n 3, 1) := by decide +kernel
theorem dX7_addMovesOfOther_3 : decode cX7_addMovesOfOther 3 = .ok (.aload_n 1, 1) := by decide +kernel
theorem dX7_addMovesOfOther_4 : decode cX7_addMovesOfOther 4 = .ok (.getfield 115, 3) := by decide +kernel
theorem dX7_addMovesOfOther_7 : decode cX7_addMovesOfOther 7 = .ok (.getfield 119, 3) := by decide +kernel
theorem dX7_addMovesOfOther_10 : decode cX7_addMovesOfOther 10 = .ok (.if_icmp .ge 93, 3) := by decide +kernel
theorem dX7_addMovesOfOther_13 : decode cX7_addMovesOfOther 13 = .ok (.aload_n 1, 1) := by decide +kernel
theorem dX7_addMovesOfOther_14 : decode cX7_addMovesOfOther 14 = .ok (.getfield 115, 3) := by decide +kernel
theorem dX7_addMovesOfOther_17 : decode cX7_addMovesOfOther 17 = .ok (.getfield 122, 3) := by decide +kernel
theorem dX7_addMovesOfOther_20 : decode cX7_addMovesOfOther 20 = .ok (.iload_n 3, 1) := by decide +kernel
theorem dX7_addMovesOfOther_21 : decode cX7_addMovesOfOther 21 = .ok (.iaload, 1) := by decide +kernel
theorem dX7_addMovesOfOther_22 : decode cX7_addMovesOfOther 22 = .ok (.istore 4, 2) := by decide +kernel
theorem dX7_addMovesOfOther_24 : decode cX7_addMovesOfOther 24 = .ok (.iload 4, 2) := by decide +kernel
theorem dX7_addMovesOfOther_26 : decode cX7_addMovesOfOther 26 = .ok (.invokestatic 132, 3) := by decide +kernel
theorem dX7_addMovesOfOther_29 : decode cX7_addMovesOfOther 29 = .ok (.bipush 8, 2) := by decide +kernel
theorem dX7_addMovesOfOther_31 : decode cX7_addMovesOfOther 31 = .ok (.if_icmp .ne 66, 3) := by decide +kernel
theorem dX7_addMovesOfOther_34 : decode cX7_addMovesOfOther 34 = .ok (.iconst 0, 1) := by decide +kernel
theorem dX7_addMovesOfOther_35 : decode cX7_addMovesOfOther 35 = .ok (.istore 5, 2) := by decide +kernel
theorem dX7_addMovesOfOther_37 : decode cX7_addMovesOfOther 37 = .ok (.iload 5, 2) := by decide +kernel
theorem dX7_addMovesOfOther_39 : decode cX7_addMovesOfOther 39 = .ok (.iload_n 2, 1) := by decide +kernel
theorem dX7_addMovesOfOther_40 : decode cX7_addMovesOfOther 40 = .ok (.if_icmp .ge 57, 3) := by decide +kernel
theorem dX7_addMovesOfOther_43 : decode cX7_addMovesOfOther 43 = .ok (.iload 5, 2) := by decide +kernel
theorem dX7_addMovesOfOther_45 : decode cX7_addMovesOfOther 45 = .ok (.aload_n 1, 1) := by decide +kernel
theorem dX7_addMovesOfOther_46 : decode cX7_addMovesOfOther 46 = .ok (.getfield 95, 3) := by decide +kernel
theorem dX7_addMovesOfOther_49 : decode cX7_addMovesOfOther 49 = .ok (.imul, 1) := by decide +kernel
theorem dX7_addMovesOfOther_50 : decode cX7_addMovesOfOther 50 = .ok (.istore 6, 2) := by decide +kernel
theorem dX7_addMovesOfOther_52 : decode cX7_addMovesOfOther 52 = .ok (.aload_n 0, 1) := by decide +kernel
theorem dX7_addMovesOfOther_53 : decode cX7_addMovesOfOther 53 = .ok (.getfield 30, 3) := by decide +kernel
theorem dX7_addMovesOfOther_56 : decode cX7_addMovesOfOther 56 = .ok (.iload 6, 2) := by decide +kernel
theorem dX7_addMovesOfOther_58 : decode cX7_addMovesOfOther 58 = .ok (.iload 4, 2) := by decide +kernel
theorem dX7_addMovesOfOther_60 : decode cX7_addMovesOfOther 60 = .ok (.invokestatic 125, 3) := by decide +kernel
theorem dX7_addMovesOfOther_63 : decode cX7_addMovesOfOther 63 = .ok (.iadd, 1) := by decide +kernel
theorem dX7_addMovesOfOther_64 : decode cX7_addMovesOfOther 64 = .ok (.bipush 8, 2) := by decide +kernel
theorem dX7_addMovesOfOther_66 : decode cX7_addMovesOfOther 66 = .ok (.iload 4, 2) := by decide +kernel
theorem dX7_addMovesOfOther_68 : decode cX7_addMovesOfOther 68 = .ok (.invokestatic 129, 3) := by decide +kernel
theorem dX7_addMovesOfOther_71 : decode cX7_addMovesOfOther 71 = .ok (.aload_n 1, 1) := by decide +kernel
theorem dX7_addMovesOfOther_72 : decode cX7_addMovesOfOther 72 = .ok (.getfield 115, 3) := by decide +kernel
theorem dX7_addMovesOfOther_75 : decode cX7_addMovesOfOther 75 = .ok (.getfield 135, 3) := by decide +kernel
theorem dX7_addMovesOfOther_78 : decode cX7_addMovesOfOther 78 = .ok (.iload_n 3, 1) := by decide +kernel
theorem dX7_addMovesOfOther_79 : decode cX7_addMovesOfOther 79 = .ok (.iaload, 1) := by decide +kernel
theorem dX7_addMovesOfOther_80 : decode cX7_addMovesOfOther 80 = .ok (.iload 6, 2) := by decide +kernel
theorem dX7_addMovesOfOther_82 : decode cX7_addMovesOfOther 82 = .ok (.iload 4, 2) := by decide +kernel
theorem dX7_addMovesOfOther_84 : decode cX7_addMovesOfOther 84 = .ok (.invokestatic 138, 3) := by decide +kernel
theorem dX7_addMovesOfOther_87 : decode cX7_addMovesOfOther 87 = .ok (.iadd, 1) := by decide +kernel
theorem dX7_addMovesOfOther_88 : decode cX7_addMovesOfOther 88 = .ok (.invokevirtual 80, 3) := by decide +kernel
theorem dX7_addMovesOfOther_91 : decode cX7_addMovesOfOther 91 = .ok (.iinc 5 1, 3) := by decide +kernel
theorem dX7_addMovesOfOther_94 : decode cX7_addMovesOfOther 94 = .ok (.goto (-57), 3) := by decide +kernel
theorem dX7_addMovesOfOther_97 : decode cX7_addMovesOfOther 97 = .ok (.iinc 3 1, 3) := by decide +kernel
theorem dX7_addMovesOfOther_100 : decode cX7_addMovesOfOther 100 = .ok (.goto (-98), 3) := by decide +kernel
theorem dX7_addMovesOfOther_103 : decode cX7_addMovesOfOther 103 = .ok (.return_, 1) := by decide +kernel
set_option maxRecDepth 20000 in
theorem ggX7_addEndsOfBoth_X7_holds : GoodIn wsX7_addEndsOfBoth wsX7_holds := goodIn_r _ [7] rfl (by decide +kernel)
set_option maxRecDepth 20000 in
theorem gX7_addEndsOfBoth_X7_holds : GoodIn wsX7_addEndsOfBoth (va_wsS RX7 209 yX7_holds wsX7_holds) := goodIn_app (goodIn_of _ (by decide +kernel)) ggX7_addEndsOfBoth_X7_holds
set_option maxRecDepth 20000 in
theorem ggX7_addEndsOfBoth_X1_addEndsOf : GoodIn wsX7_addEndsOfBoth wsX1_addEndsOf := goodIn_r _ [12, 13, 14, 5, 6, 7, 15, 16, 17, 11, 18, 19, 20, 21, 22, 23, 32, 33, 34, 35, 36, 37, 38, 39, 40, 41, 42, 43, 44] rfl (by decide +kernel)
set_option maxRecDepth 20000 in
theorem gX7_addEndsOfBoth_X1_addEndsOf : GoodIn wsX7_addEndsOfBoth (wsV RX7 106 RX1 yX1_addEndsOf wsX1_addEndsOf) := goodIn_app (goodIn_of _ (by decide +kernel)) ggX7_addEndsOfBoth_X1_addEndsOf
theorem dX7_addEndsOfBoth_0 : decode cX7_addEndsOfBoth 0 = .ok (.iconst 0, 1) := by decide +kernel
theorem dX7_addEndsOfBoth_1 : decode cX7_addEndsOfBoth 1 = .ok (.istore_n 3, 1) := by decide +kernel
theorem dX7_addEndsOfBoth_2 : decode cX7_addEndsOfBoth 2 = .ok (.iload_n 3, 1) := by decide +kernel
theorem dX7_addEndsOfBoth_3 : decode cX7_addEndsOfBoth 3 = .ok (.aload_n 1, 1) := by decide +kernel
theorem dX7_addEndsOfBoth_4 : decode cX7_addEndsOfBoth 4 = .ok (.getfield 95, 3) := by decide +kernel
theorem dX7_addEndsOfBoth_7 : decode cX7_addEndsOfBoth 7 = .ok (.if_icmp .ge 34, 3) := by decide +kernel
theorem dX7_addEndsOfBoth_10 : decode cX7_addEndsOfBoth 10 = .ok (.aload_n 1, 1) := by decide +kernel
theorem dX7_addEndsOfBoth_11 : decode cX7_addEndsOfBoth 11 = .ok (.getfield 206, 3) := by decide +kernel
theorem dX7_addEndsOfBoth_14 : decode cX7_addEndsOfBoth 14 = .ok (.iload_n 3, 1) := by decide +kernel
theorem dX7_addEndsOfBoth_15 : decode cX7_addEndsOfBoth 15 = .ok (.invokestatic 209, 3) := by decide +kernel
theorem dX7_addEndsOfBoth_18 : decode cX7_addEndsOfBoth 18 = .ok (.ifCond .eq 17, 3) := by decide +kernel
theorem dX7_addEndsOfBoth_21 : decode cX7_addEndsOfBoth 21 = .ok (.aload_n 0, 1) := by decide +kernel
theorem dX7_addEndsOfBoth_22 : decode cX7_addEndsOfBoth 22 = .ok (.getfield 30, 3) := by decide +kernel
theorem dX7_addEndsOfBoth_25 : decode cX7_addEndsOfBoth 25 = .ok (.aload_n 2, 1) := by decide +kernel
theorem dX7_addEndsOfBoth_26 : decode cX7_addEndsOfBoth 26 = .ok (.iload_n 3, 1) := by decide +kernel
theorem dX7_addEndsOfBoth_27 : decode cX7_addEndsOfBoth 27 = .ok (.aload_n 2, 1) := by decide +kernel
theorem dX7_addEndsOfBoth_28 : decode cX7_addEndsOfBoth 28 = .ok (.getfield 95, 3) := by decide +kernel
theorem dX7_addEndsOfBoth_31 : decode cX7_addEndsOfBoth 31 = .ok (.imul, 1) := by decide +kernel
theorem dX7_addEndsOfBoth_32 : decode cX7_addEndsOfBoth 32 = .ok (.invokevirtual 106, 3) := by decide +kernel
theorem dX7_addEndsOfBoth_35 : decode cX7_addEndsOfBoth 35 = .ok (.iinc 3 1, 3) := by decide +kernel
theorem dX7_addEndsOfBoth_38 : decode cX7_addEndsOfBoth 38 = .ok (.goto (-36), 3) := by decide +kernel
theorem dX7_addEndsOfBoth_41 : decode cX7_addEndsOfBoth 41 = .ok (.return_, 1) := by decide +kernel
theorem dX7_ruleState_0 : decode cX7_ruleState 0 = .ok (.iload_n 0, 1) := by decide +kernel
theorem dX7_ruleState_1 : decode cX7_ruleState 1 = .ok (.ifCond .eq 7, 3) := by decide +kernel
theorem dX7_ruleState_4 : decode cX7_ruleState 4 = .ok (.iconst 3, 1) := by decide +kernel
theorem dX7_ruleState_5 : decode cX7_ruleState 5 = .ok (.goto 4, 3) := by decide +kernel
theorem dX7_ruleState_8 : decode cX7_ruleState 8 = .ok (.iconst 0, 1) := by decide +kernel
theorem dX7_ruleState_9 : decode cX7_ruleState 9 = .ok (.iload_n 1, 1) := by decide +kernel
theorem dX7_ruleState_10 : decode cX7_ruleState 10 = .ok (.iadd, 1) := by decide +kernel
theorem dX7_ruleState_11 : decode cX7_ruleState 11 = .ok (.ireturn, 1) := by decide +kernel
theorem dX7_isAsKnown_0 : decode cX7_isAsKnown 0 = .ok (.iload_n 1, 1) := by decide +kernel
theorem dX7_isAsKnown_1 : decode cX7_isAsKnown 1 = .ok (.iconst 1, 1) := by decide +kernel
theorem dX7_isAsKnown_2 : decode cX7_isAsKnown 2 = .ok (.if_icmp .ne 14, 3) := by decide +kernel
theorem dX7_isAsKnown_5 : decode cX7_isAsKnown 5 = .ok (.iload_n 0, 1) := by decide +kernel
theorem dX7_isAsKnown_6 : decode cX7_isAsKnown 6 = .ok (.iload_n 2, 1) := by decide +kernel
theorem dX7_isAsKnown_7 : decode cX7_isAsKnown 7 = .ok (.if_icmp .ne 7, 3) := by decide +kernel
theorem dX7_isAsKnown_10 : decode cX7_isAsKnown 10 = .ok (.iconst 1, 1) := by decide +kernel
theorem dX7_isAsKnown_11 : decode cX7_isAsKnown 11 = .ok (.goto 4, 3) := by decide +kernel
theorem dX7_isAsKnown_14 : decode cX7_isAsKnown 14 = .ok (.iconst 0, 1) := by decide +kernel
theorem dX7_isAsKnown_15 : decode cX7_isAsKnown 15 = .ok (.ireturn, 1) := by decide +kernel
theorem dX7_isAsKnown_16 : decode cX7_isAsKnown 16 = .ok (.iload_n 1, 1) := by decide +kernel
theorem dX7_isAsKnown_17 : decode cX7_isAsKnown 17 = .ok (.ifCond .eq 8, 3) := by decide +kernel
theorem dX7_isAsKnown_20 : decode cX7_isAsKnown 20 = .ok (.iload_n 0, 1) := by decide +kernel
theorem dX7_isAsKnown_21 : decode cX7_isAsKnown 21 = .ok (.iload_n 2, 1) := by decide +kernel
theorem dX7_isAsKnown_22 : decode cX7_isAsKnown 22 = .ok (.if_icmp .eq 7, 3) := by decide +kernel
theorem dX7_isAsKnown_25 : decode cX7_isAsKnown 25 = .ok (.iconst 1, 1) := by decide +kernel
theorem dX7_isAsKnown_26 : decode cX7_isAsKnown 26 = .ok (.goto 4, 3) := by decide +kernel
theorem dX7_isAsKnown_29 : decode cX7_isAsKnown 29 = .ok (.iconst 0, 1) := by decide +kernel
theorem dX7_isAsKnown_30 : decode cX7_isAsKnown 30 = .ok (.ireturn, 1) := by decide +kernel
set_option maxRecDepth 20000 in
theorem ggX7_addCopy_X7_ruleState : GoodIn wsX7_addCopy wsX7_ruleState := goodIn_r _ [5] rfl (by decide +kernel)
set_option maxRecDepth 20000 in
theorem gX7_addCopy_X7_ruleState : GoodIn wsX7_addCopy (va_wsS RX7 185 yX7_ruleState wsX7_ruleState) := goodIn_app (goodIn_of _ (by decide +kernel)) ggX7_addCopy_X7_ruleState
set_option maxRecDepth 20000 in
theorem ggX7_addCopy_X1_addArc : GoodIn wsX7_addCopy wsX1_addArc := goodIn_r _ [10, 11, 12, 13, 14, 15, 4, 16, 25, 26, 27, 28, 29, 30, 31, 32, 33, 34, 35, 36, 37] rfl (by decide +kernel)
set_option maxRecDepth 20000 in
theorem gX7_addCopy_X1_addArc : GoodIn wsX7_addCopy (wsV RX7 80 RX1 yX1_addArc wsX1_addArc) := goodIn_app (goodIn_of _ (by decide +kernel)) ggX7_addCopy_X1_addArc
theorem dX7_addCopy_0 : decode cX7_addCopy 0 = .ok (.aload_n 0, 1) := by decide +kernel
theorem dX7_addCopy_1 : decode cX7_addCopy 1 = .ok (.getfield 30, 3) := by decide +kernel
theorem dX7_addCopy_4 : decode cX7_addCopy 4 = .ok (.iload_n 1, 1) := by decide +kernel
theorem dX7_addCopy_5 : decode cX7_addCopy 5 = .ok (.iload_n 2, 1) := by decide +kernel
theorem dX7_addCopy_6 : decode cX7_addCopy 6 = .ok (.invokestatic 185, 3) := by decide +kernel
theorem dX7_addCopy_9 : decode cX7_addCopy 9 = .ok (.iload_n 3, 1) := by decide +kernel
theorem dX7_addCopy_10 : decode cX7_addCopy 10 = .ok (.iload_n 3, 1) := by decide +kernel
theorem dX7_addCopy_11 : decode cX7_addCopy 11 = .ok (.iconst 0, 1) := by decide +kernel
theorem dX7_addCopy_12 : decode cX7_addCopy 12 = .ok (.iload 4, 2) := by decide +kernel
theorem dX7_addCopy_14 : decode cX7_addCopy 14 = .ok (.iconst 0, 1) := by decide +kernel
theorem dX7_addCopy_15 : decode cX7_addCopy 15 = .ok (.invokestatic 185, 3) := by decide +kernel
theorem dX7_addCopy_18 : decode cX7_addCopy 18 = .ok (.invokevirtual 80, 3) := by decide +kernel
theorem dX7_addCopy_21 : decode cX7_addCopy 21 = .ok (.return_, 1) := by decide +kernel
set_option maxRecDepth 20000 in
theorem ggX7_addRewriting_X7_ruleState : GoodIn wsX7_addRewriting wsX7_ruleState := goodIn_r _ [5] rfl (by decide +kernel)
set_option maxRecDepth 20000 in
theorem gX7_addRewriting_X7_ruleState : GoodIn wsX7_addRewriting (va_wsS RX7 185 yX7_ruleState wsX7_ruleState) := goodIn_app (goodIn_of _ (by decide +kernel)) ggX7_addRewriting_X7_ruleState
set_option maxRecDepth 20000 in
theorem ggX7_addRewriting_X1_addArc : GoodIn wsX7_addRewriting wsX1_addArc := goodIn_r _ [10, 11, 12, 13, 14, 15, 4, 16, 25, 26, 27, 28, 29, 30, 31, 32, 33, 34, 35, 36, 37] rfl (by decide +kernel)
set_option maxRecDepth 20000 in
theorem gX7_addRewriting_X1_addArc : GoodIn wsX7_addRewriting (wsV RX7 80 RX1 yX1_addArc wsX1_addArc) := goodIn_app (goodIn_of _ (by decide +kernel)) ggX7_addRewriting_X1_addArc
theorem dX7_addRewriting_0 : decode cX7_addRewriting 0 = .ok (.iload 4, 2) := by decide +kernel
theorem dX7_addRewriting_2 : decode cX7_addRewriting 2 = .ok (.iconst (-1), 1) := by decide +kernel
theorem dX7_addRewriting_3 : decode cX7_addRewriting 3 = .ok (.if_icmp .ne 23, 3) := by decide +kernel
theorem dX7_addRewriting_6 : decode cX7_addRewriting 6 = .ok (.aload_n 0, 1) := by decide +kernel
theorem dX7_addRewriting_7 : decode cX7_addRewriting 7 = .ok (.getfield 30, 3) := by decide +kernel
theorem dX7_addRewriting_10 : decode cX7_addRewriting 10 = .ok (.iload_n 1, 1) := by decide +kernel
theorem dX7_addRewriting_11 : decode cX7_addRewriting 11 = .ok (.iload_n 2, 1) := by decide +kernel
theorem dX7_addRewriting_12 : decode cX7_addRewriting 12 = .ok (.iload_n 3, 1) := by decide +kernel
theorem dX7_addRewriting_13 : decode cX7_addRewriting 13 = .ok (.iconst 0, 1) := by decide +kernel
theorem dX7_addRewriting_14 : decode cX7_addRewriting 14 = .ok (.iload 5, 2) := by decide +kernel
theorem dX7_addRewriting_16 : decode cX7_addRewriting 16 = .ok (.iconst 0, 1) := by decide +kernel
theorem dX7_addRewriting_17 : decode cX7_addRewriting 17 = .ok (.invokestatic 185, 3) := by decide +kernel
theorem dX7_addRewriting_20 : decode cX7_addRewriting 20 = .ok (.invokevirtual 80, 3) := by decide +kernel
theorem dX7_addRewriting_23 : decode cX7_addRewriting 23 = .ok (.goto 37, 3) := by decide +kernel
theorem dX7_addRewriting_26 : decode cX7_addRewriting 26 = .ok (.aload_n 0, 1) := by decide +kernel
theorem dX7_addRewriting_27 : decode cX7_addRewriting 27 = .ok (.getfield 30, 3) := by decide +kernel
theorem dX7_addRewriting_30 : decode cX7_addRewriting 30 = .ok (.iload_n 1, 1) := by decide +kernel
theorem dX7_addRewriting_31 : decode cX7_addRewriting 31 = .ok (.iload_n 2, 1) := by decide +kernel
theorem dX7_addRewriting_32 : decode cX7_addRewriting 32 = .ok (.iload_n 3, 1) := by decide +kernel
theorem dX7_addRewriting_33 : decode cX7_addRewriting 33 = .ok (.iconst 0, 1) := by decide +kernel
theorem dX7_addRewriting_34 : decode cX7_addRewriting 34 = .ok (.iload 5, 2) := by decide +kernel
theorem dX7_addRewriting_36 : decode cX7_addRewriting 36 = .ok (.iconst 1, 1) := by decide +kernel
theorem dX7_addRewriting_37 : decode cX7_addRewriting 37 = .ok (.invokestatic 185, 3) := by decide +kernel
theorem dX7_addRewriting_40 : decode cX7_addRewriting 40 = .ok (.invokevirtual 80, 3) := by decide +kernel
theorem dX7_addRewriting_43 : decode cX7_addRewriting 43 = .ok (.aload_n 0, 1) := by decide +kernel
theorem dX7_addRewriting_44 : decode cX7_addRewriting 44 = .ok (.getfield 30, 3) := by decide +kernel
theorem dX7_addRewriting_47 : decode cX7_addRewriting 47 = .ok (.iload_n 1, 1) := by decide +kernel
theorem dX7_addRewriting_48 : decode cX7_addRewriting 48 = .ok (.iload_n 2, 1) := by decide +kernel
theorem dX7_addRewriting_49 : decode cX7_addRewriting 49 = .ok (.iload_n 2, 1) := by decide +kernel
theorem dX7_addRewriting_50 : decode cX7_addRewriting 50 = .ok (.iconst 0, 1) := by decide +kernel
theorem dX7_addRewriting_51 : decode cX7_addRewriting 51 = .ok (.iload 5, 2) := by decide +kernel
theorem dX7_addRewriting_53 : decode cX7_addRewriting 53 = .ok (.iconst 2, 1) := by decide +kernel
theorem dX7_addRewriting_54 : decode cX7_addRewriting 54 = .ok (.invokestatic 185, 3) := by decide +kernel
theorem dX7_addRewriting_57 : decode cX7_addRewriting 57 = .ok (.invokevirtual 80, 3) := by decide +kernel
theorem dX7_addRewriting_60 : decode cX7_addRewriting 60 = .ok (.iload 6, 2) := by decide +kernel
theorem dX7_addRewriting_62 : decode cX7_addRewriting 62 = .ok (.ifCond .eq 20, 3) := by decide +kernel
theorem dX7_addRewriting_65 : decode cX7_addRewriting 65 = .ok (.aload_n 0, 1) := by decide +kernel
theorem dX7_addRewriting_66 : decode cX7_addRewriting 66 = .ok (.getfield 30, 3) := by decide +kernel
theorem dX7_addRewriting_69 : decode cX7_addRewriting 69 = .ok (.iload_n 1, 1) := by decide +kernel
theorem dX7_addRewriting_70 : decode cX7_addRewriting 70 = .ok (.iload_n 2, 1) := by decide +kernel
theorem dX7_addRewriting_71 : decode cX7_addRewriting 71 = .ok (.iload_n 2, 1) := by decide +kernel
theorem dX7_addRewriting_72 : decode cX7_addRewriting 72 = .ok (.iconst 0, 1) := by decide +kernel
theorem dX7_addRewriting_73 : decode cX7_addRewriting 73 = .ok (.iload 5, 2) := by decide +kernel
theorem dX7_addRewriting_75 : decode cX7_addRewriting 75 = .ok (.iconst 0, 1) := by decide +kernel
theorem dX7_addRewriting_76 : decode cX7_addRewriting 76 = .ok (.invokestatic 185, 3) := by decide +kernel
theorem dX7_addRewriting_79 : decode cX7_addRewriting 79 = .ok (.invokevirtual 80, 3) := by decide +kernel
theorem dX7_addRewriting_82 : decode cX7_addRewriting 82 = .ok (.return_, 1) := by decide +kernel
set_option maxRecDepth 20000 in
theorem ggX7_lookUp_X4_begin : GoodIn wsX7_lookUp wsX4_begin := goodIn_r _ [9, 10, 11, 12, 13, 14, 15, 16, 17, 18, 19, 20, 21, 22, 23, 24, 25, 8, 26, 27, 28, 29, 30, 31, 32, 33, 34, 35, 36, 37, 38, 39, 40, 41, 42, 43, 44, 45, 46, 47, 48, 49, 50, 51, 52, 53, 54, 55, 56, 57, 58, 59, 60, 61, 62, 63, 64, 65, 66, 67, 68, 69, 70, 71, 72, 73, 74, 75, 76, 77, 78, 79, 80, 89, 90, 91, 92, 93, 94, 95, 96, 97, 98, 99, 100, 101, 102, 103, 104, 105, 106, 107, 108] rfl (by decide +kernel)
set_option maxRecDepth 20000 in
theorem gX7_lookUp_X4_begin : GoodIn wsX7_lookUp (wsV RX7 240 RX4 yX4_begin wsX4_begin) := goodIn_app (goodIn_of _ (by decide +kernel)) ggX7_lookUp_X4_begin
theorem dX7_lookUp_0 : decode cX7_lookUp 0 = .ok (.iload_n 2, 1) := by decide +kernel
theorem dX7_lookUp_1 : decode cX7_lookUp 1 = .ok (.ifCond .eq 7, 3) := by decide +kernel
theorem dX7_lookUp_4 : decode cX7_lookUp 4 = .ok (.iconst 1, 1) := by decide +kernel
theorem dX7_lookUp_5 : decode cX7_lookUp 5 = .ok (.goto 4, 3) := by decide +kernel
theorem dX7_lookUp_8 : decode cX7_lookUp 8 = .ok (.iconst 0, 1) := by decide +kernel
theorem dX7_lookUp_9 : decode cX7_lookUp 9 = .ok (.istore_n 3, 1) := by decide +kernel
theorem dX7_lookUp_10 : decode cX7_lookUp 10 = .ok (.aload_n 0, 1) := by decide +kernel
theorem dX7_lookUp_11 : decode cX7_lookUp 11 = .ok (.getfield 44, 3) := by decide +kernel
theorem dX7_lookUp_14 : decode cX7_lookUp 14 = .ok (.aload_n 0, 1) := by decide +kernel
theorem dX7_lookUp_15 : decode cX7_lookUp 15 = .ok (.getfield 19, 3) := by decide +kernel
theorem dX7_lookUp_18 : decode cX7_lookUp 18 = .ok (.iload_n 1, 1) := by decide +kernel
theorem dX7_lookUp_19 : decode cX7_lookUp 19 = .ok (.aaload, 1) := by decide +kernel
theorem dX7_lookUp_20 : decode cX7_lookUp 20 = .ok (.aload_n 0, 1) := by decide +kernel
theorem dX7_lookUp_21 : decode cX7_lookUp 21 = .ok (.getfield 9, 3) := by decide +kernel
theorem dX7_lookUp_24 : decode cX7_lookUp 24 = .ok (.aload_n 0, 1) := by decide +kernel
theorem dX7_lookUp_25 : decode cX7_lookUp 25 = .ok (.getfield 13, 3) := by decide +kernel
theorem dX7_lookUp_28 : decode cX7_lookUp 28 = .ok (.iload_n 3, 1) := by decide +kernel
theorem dX7_lookUp_29 : decode cX7_lookUp 29 = .ok (.invokevirtual 240, 3) := by decide +kernel
theorem dX7_lookUp_32 : decode cX7_lookUp 32 = .ok (.return_, 1) := by decide +kernel
theorem dX7_isRewritten_0 : decode cX7_isRewritten 0 = .ok (.iload_n 3, 1) := by decide +kernel
theorem dX7_isRewritten_1 : decode cX7_isRewritten 1 = .ok (.iconst (-1), 1) := by decide +kernel
theorem dX7_isRewritten_2 : decode cX7_isRewritten 2 = .ok (.if_icmp .eq 19, 3) := by decide +kernel
theorem dX7_isRewritten_5 : decode cX7_isRewritten 5 = .ok (.iload_n 1, 1) := by decide +kernel
theorem dX7_isRewritten_6 : decode cX7_isRewritten 6 = .ok (.ifCond .le 19, 3) := by decide +kernel
theorem dX7_isRewritten_9 : decode cX7_isRewritten 9 = .ok (.aload_n 0, 1) := by decide +kernel
theorem dX7_isRewritten_10 : decode cX7_isRewritten 10 = .ok (.getfield 9, 3) := by decide +kernel
theorem dX7_isRewritten_13 : decode cX7_isRewritten 13 = .ok (.iload_n 1, 1) := by decide +kernel
theorem dX7_isRewritten_14 : decode cX7_isRewritten 14 = .ok (.iconst 1, 1) := by decide +kernel
theorem dX7_isRewritten_15 : decode cX7_isRewritten 15 = .ok (.isub, 1) := by decide +kernel
theorem dX7_isRewritten_16 : decode cX7_isRewritten 16 = .ok (.iaload, 1) := by decide +kernel
theorem dX7_isRewritten_17 : decode cX7_isRewritten 17 = .ok (.iload_n 3, 1) := by decide +kernel
theorem dX7_isRewritten_18 : decode cX7_isRewritten 18 = .ok (.if_icmp .ne 7, 3) := by decide +kernel
theorem dX7_isRewritten_21 : decode cX7_isRewritten 21 = .ok (.iconst 1, 1) := by decide +kernel
theorem dX7_isRewritten_22 : decode cX7_isRewritten 22 = .ok (.goto 4, 3) := by decide +kernel
theorem dX7_isRewritten_25 : decode cX7_isRewritten 25 = .ok (.iconst 0, 1) := by decide +kernel
theorem dX7_isRewritten_26 : decode cX7_isRewritten 26 = .ok (.istore 5, 2) := by decide +kernel
theorem dX7_isRewritten_28 : decode cX7_isRewritten 28 = .ok (.iload 4, 2) := by decide +kernel
theorem dX7_isRewritten_30 : decode cX7_isRewritten 30 = .ok (.iconst (-1), 1) := by decide +kernel
theorem dX7_isRewritten_31 : decode cX7_isRewritten 31 = .ok (.if_icmp .eq 26, 3) := by decide +kernel
theorem dX7_isRewritten_34 : decode cX7_isRewritten 34 = .ok (.iload_n 1, 1) := by decide +kernel
theorem dX7_isRewritten_35 : decode cX7_isRewritten 35 = .ok (.iconst 1, 1) := by decide +kernel
theorem dX7_isRewritten_36 : decode cX7_isRewritten 36 = .ok (.iadd, 1) := by decide +kernel
theorem dX7_isRewritten_37 : decode cX7_isRewritten 37 = .ok (.aload_n 0, 1) := by decide +kernel
theorem dX7_isRewritten_38 : decode cX7_isRewritten 38 = .ok (.getfield 13, 3) := by decide +kernel
theorem dX7_isRewritten_41 : decode cX7_isRewritten 41 = .ok (.if_icmp .ge 20, 3) := by decide +kernel
theorem dX7_isRewritten_44 : decode cX7_isRewritten 44 = .ok (.aload_n 0, 1) := by decide +kernel
theorem dX7_isRewritten_45 : decode cX7_isRewritten 45 = .ok (.getfield 9, 3) := by decide +kernel
theorem dX7_isRewritten_48 : decode cX7_isRewritten 48 = .ok (.iload_n 1, 1) := by decide +kernel
theorem dX7_isRewritten_49 : decode cX7_isRewritten 49 = .ok (.iconst 1, 1) := by decide +kernel
theorem dX7_isRewritten_50 : decode cX7_isRewritten 50 = .ok (.iadd, 1) := by decide +kernel
theorem dX7_isRewritten_51 : decode cX7_isRewritten 51 = .ok (.iaload, 1) := by decide +kernel
theorem dX7_isRewritten_52 : decode cX7_isRewritten 52 = .ok (.iload 4, 2) := by decide +kernel
theorem dX7_isRewritten_54 : decode cX7_isRewritten 54 = .ok (.if_icmp .ne 7, 3) := by decide +kernel
theorem dX7_isRewritten_57 : decode cX7_isRewritten 57 = .ok (.iconst 1, 1) := by decide +kernel
theorem dX7_isRewritten_58 : decode cX7_isRewritten 58 = .ok (.goto 4, 3) := by decide +kernel
theorem dX7_isRewritten_61 : decode cX7_isRewritten 61 = .ok (.iconst 0, 1) := by decide +kernel
theorem dX7_isRewritten_62 : decode cX7_isRewritten 62 = .ok (.istore 6, 2) := by decide +kernel
theorem dX7_isRewritten_64 : decode cX7_isRewritten 64 = .ok (.aload_n 0, 1) := by decide +kernel
theorem dX7_isRewritten_65 : decode cX7_isRewritten 65 = .ok (.getfield 9, 3) := by decide +kernel
theorem dX7_isRewritten_68 : decode cX7_isRewritten 68 = .ok (.iload_n 1, 1) := by decide +kernel
theorem dX7_isRewritten_69 : decode cX7_isRewritten 69 = .ok (.iaload, 1) := by decide +kernel
theorem dX7_isRewritten_70 : decode cX7_isRewritten 70 = .ok (.iload_n 2, 1) := by decide +kernel
theorem dX7_isRewritten_71 : decode cX7_isRewritten 71 = .ok (.if_icmp .ne 17, 3) := by decide +kernel
theorem dX7_isRewritten_74 : decode cX7_isRewritten 74 = .ok (.iload 5, 2) := by decide +kernel
theorem dX7_isRewritten_76 : decode cX7_isRewritten 76 = .ok (.ifCond .eq 12, 3) := by decide +kernel
theorem dX7_isRewritten_79 : decode cX7_isRewritten 79 = .ok (.iload 6, 2) := by decide +kernel
theorem dX7_isRewritten_81 : decode cX7_isRewritten 81 = .ok (.ifCond .eq 7, 3) := by decide +kernel
theorem dX7_isRewritten_84 : decode cX7_isRewritten 84 = .ok (.iconst 1, 1) := by decide +kernel
theorem dX7_isRewritten_85 : decode cX7_isRewritten 85 = .ok (.goto 4, 3) := by decide +kernel
theorem dX7_isRewritten_88 : decode cX7_isRewritten 88 = .ok (.iconst 0, 1) := by decide +kernel
theorem dX7_isRewritten_89 : decode cX7_isRewritten 89 = .ok (.ireturn, 1) := by decide +kernel
theorem dX7_packedArc_0 : decode cX7_packedArc 0 = .ok (.iload_n 0, 1) := by decide +kernel
theorem dX7_packedArc_1 : decode cX7_packedArc 1 = .ok (.bipush 18, 2) := by decide +kernel
theorem dX7_packedArc_3 : decode cX7_packedArc 3 = .ok (.ishl, 1) := by decide +kernel
theorem dX7_packedArc_4 : decode cX7_packedArc 4 = .ok (.iload_n 1, 1) := by decide +kernel
theorem dX7_packedArc_5 : decode cX7_packedArc 5 = .ok (.bipush 14, 2) := by decide +kernel
theorem dX7_packedArc_7 : decode cX7_packedArc 7 = .ok (.ishl, 1) := by decide +kernel
theorem dX7_packedArc_8 : decode cX7_packedArc 8 = .ok (.ior, 1) := by decide +kernel
theorem dX7_packedArc_9 : decode cX7_packedArc 9 = .ok (.iload_n 2, 1) := by decide +kernel
theorem dX7_packedArc_10 : decode cX7_packedArc 10 = .ok (.bipush 10, 2) := by decide +kernel
theorem dX7_packedArc_12 : decode cX7_packedArc 12 = .ok (.ishl, 1) := by decide +kernel
theorem dX7_packedArc_13 : decode cX7_packedArc 13 = .ok (.ior, 1) := by decide +kernel
theorem dX7_packedArc_14 : decode cX7_packedArc 14 = .ok (.iload_n 3, 1) := by decide +kernel
theorem dX7_packedArc_15 : decode cX7_packedArc 15 = .ok (.ior, 1) := by decide +kernel
theorem dX7_packedArc_16 : decode cX7_packedArc 16 = .ok (.ireturn, 1) := by decide +kernel
theorem dX7_fromOf_0 : decode cX7_fromOf 0 = .ok (.iload_n 0, 1) := by decide +kernel
theorem dX7_fromOf_1 : decode cX7_fromOf 1 = .ok (.bipush 18, 2) := by decide +kernel
theorem dX7_fromOf_3 : decode cX7_fromOf 3 = .ok (.iushr, 1) := by decide +kernel
theorem dX7_fromOf_4 : decode cX7_fromOf 4 = .ok (.ireturn, 1) := by decide +kernel
theorem dX7_upperOf_0 : decode cX7_upperOf 0 = .ok (.iload_n 0, 1) := by decide +kernel
theorem dX7_upperOf_1 : decode cX7_upperOf 1 = .ok (.bipush 14, 2) := by decide +kernel
theorem dX7_upperOf_3 : decode cX7_upperOf 3 = .ok (.iushr, 1) := by decide +kernel
theorem dX7_upperOf_4 : decode cX7_upperOf 4 = .ok (.bipush 15, 2) := by decide +kernel
theorem dX7_upperOf_6 : decode cX7_upperOf 6 = .ok (.iand, 1) := by decide +kernel
theorem dX7_upperOf_7 : decode cX7_upperOf 7 = .ok (.ireturn, 1) := by decide +kernel
theorem dX7_lowerOf_0 : decode cX7_lowerOf 0 = .ok (.iload_n 0, 1) := by decide +kernel
theorem dX7_lowerOf_1 : decode cX7_lowerOf 1 = .ok (.bipush 10, 2) := by decide +kernel
theorem dX7_lowerOf_3 : decode cX7_lowerOf 3 = .ok (.iushr, 1) := by decide +kernel
theorem dX7_lowerOf_4 : decode cX7_lowerOf 4 = .ok (.bipush 15, 2) := by decide +kernel
theorem dX7_lowerOf_6 : decode cX7_lowerOf 6 = .ok (.iand, 1) := by decide +kernel
theorem dX7_lowerOf_7 : decode cX7_lowerOf 7 = .ok (.ireturn, 1) := by decide +kernel
theorem dX7_toOf_0 : decode cX7_toOf 0 = .ok (.iload_n 0, 1) := by decide +kernel
theorem dX7_toOf_1 : decode cX7_toOf 1 = .ok (.sipush 1023, 3) := by decide +kernel
theorem dX7_toOf_4 : decode cX7_toOf 4 = .ok (.iand, 1) := by decide +kernel
theorem dX7_toOf_5 : decode cX7_toOf 5 = .ok (.ireturn, 1) := by decide +kernel
theorem dX7_holds_0 : decode cX7_holds 0 = .ok (.iload_n 0, 1) := by decide +kernel
theorem dX7_holds_1 : decode cX7_holds 1 = .ok (.iload_n 1, 1) := by decide +kernel
theorem dX7_holds_2 : decode cX7_holds 2 = .ok (.iushr, 1) := by decide +kernel
theorem dX7_holds_3 : decode cX7_holds 3 = .ok (.iconst 1, 1) := by decide +kernel
theorem dX7_holds_4 : decode cX7_holds 4 = .ok (.iand, 1) := by decide +kernel
theorem dX7_holds_5 : decode cX7_holds 5 = .ok (.iconst 1, 1) := by decide +kernel
theorem dX7_holds_6 : decode cX7_holds 6 = .ok (.if_icmp .ne 7, 3) := by decide +kernel
theorem dX7_holds_9 : decode cX7_holds 9 = .ok (.iconst 1, 1) := by decide +kernel
theorem dX7_holds_10 : decode cX7_holds 10 = .ok (.goto 4, 3) := by decide +kernel
theorem dX7_holds_13 : decode cX7_holds 13 = .ok (.iconst 0, 1) := by decide +kernel
theorem dX7_holds_14 : decode cX7_holds 14 = .ok (.ireturn, 1) := by decide +kernel
