set_option maxRecDepth 20000 in
theorem gX8_join_X8_keeps : GoodIn wsX8_join (wsV RX8 194 RX8 yX8_keeps wsX8_keeps) := goodIn_app (goodIn_of _ (by decide +kernel)) ggX8_join_X8_keeps
theorem dX8_join_0 : decode cX8_join 0 = .ok (.aload_n 0, 1) := by decide +kernel
theorem dX8_join_1 : decode cX8_join 1 = .ok (.iload_n 1, 1) := by decide +kernel
theorem dX8_join_2 : decode cX8_join 2 = .ok (.invokevirtual 204, 3) := by decide +kernel
theorem dX8_join_5 : decode cX8_join 5 = .ok (.ifCond .eq 15, 3) := by decide +kernel
theorem dX8_join_8 : decode cX8_join 8 = .ok (.aload_n 0, 1) := by decide +kernel
theorem dX8_join_9 : decode cX8_join 9 = .ok (.iload_n 2, 1) := by decide +kernel
theorem dX8_join_10 : decode cX8_join 10 = .ok (.invokevirtual 204, 3) := by decide +kernel
theorem dX8_join_13 : decode cX8_join 13 = .ok (.ifCond .eq 7, 3) := by decide +kernel
theorem dX8_join_16 : decode cX8_join 16 = .ok (.iconst 1, 1) := by decide +kernel
theorem dX8_join_17 : decode cX8_join 17 = .ok (.goto 4, 3) := by decide +kernel
theorem dX8_join_20 : decode cX8_join 20 = .ok (.iconst 0, 1) := by decide +kernel
theorem dX8_join_21 : decode cX8_join 21 = .ok (.istore_n 3, 1) := by decide +kernel
theorem dX8_join_22 : decode cX8_join 22 = .ok (.aload_n 0, 1) := by decide +kernel
theorem dX8_join_23 : decode cX8_join 23 = .ok (.iload_n 3, 1) := by decide +kernel
theorem dX8_join_24 : decode cX8_join 24 = .ok (.ifCond .ne 7, 3) := by decide +kernel
theorem dX8_join_27 : decode cX8_join 27 = .ok (.iconst 1, 1) := by decide +kernel
theorem dX8_join_28 : decode cX8_join 28 = .ok (.goto 24, 3) := by decide +kernel
theorem dX8_join_31 : decode cX8_join 31 = .ok (.aload_n 0, 1) := by decide +kernel
theorem dX8_join_32 : decode cX8_join 32 = .ok (.invokevirtual 184, 3) := by decide +kernel
theorem dX8_join_35 : decode cX8_join 35 = .ok (.ifCond .eq 12, 3) := by decide +kernel
theorem dX8_join_38 : decode cX8_join 38 = .ok (.aload_n 0, 1) := by decide +kernel
theorem dX8_join_39 : decode cX8_join 39 = .ok (.iload_n 1, 1) := by decide +kernel
theorem dX8_join_40 : decode cX8_join 40 = .ok (.iload_n 2, 1) := by decide +kernel
theorem dX8_join_41 : decode cX8_join 41 = .ok (.invokevirtual 207, 3) := by decide +kernel
theorem dX8_join_44 : decode cX8_join 44 = .ok (.ifCond .ne 7, 3) := by decide +kernel
theorem dX8_join_47 : decode cX8_join 47 = .ok (.iconst 2, 1) := by decide +kernel
theorem dX8_join_48 : decode cX8_join 48 = .ok (.goto 4, 3) := by decide +kernel
theorem dX8_join_51 : decode cX8_join 51 = .ok (.iconst 0, 1) := by decide +kernel
theorem dX8_join_52 : decode cX8_join 52 = .ok (.invokevirtual 138, 3) := by decide +kernel
theorem dX8_join_55 : decode cX8_join 55 = .ok (.ifCond .ne 5, 3) := by decide +kernel
theorem dX8_join_58 : decode cX8_join 58 = .ok (.iconst 0, 1) := by decide +kernel
theorem dX8_join_59 : decode cX8_join 59 = .ok (.ireturn, 1) := by decide +kernel
theorem dX8_join_60 : decode cX8_join 60 = .ok (.aload_n 0, 1) := by decide +kernel
theorem dX8_join_61 : decode cX8_join 61 = .ok (.invokevirtual 194, 3) := by decide +kernel
theorem dX8_join_64 : decode cX8_join 64 = .ok (.ireturn, 1) := by decide +kernel
set_option maxRecDepth 20000 in
theorem ggX8_unites_X8_begins : GoodIn wsX8_unites wsX8_begins := goodIn_g _ [(7, 2), (2, 1), (64, 47)] (by exact rfl) (by decide +kernel)
set_option maxRecDepth 20000 in
theorem gX8_unites_X8_begins : GoodIn wsX8_unites (wsV RX8 188 RX8 yX8_begins wsX8_begins) := goodIn_app (goodIn_of _ (by decide +kernel)) ggX8_unites_X8_begins
set_option maxRecDepth 20000 in
theorem ggX8_unites_X8_puts : GoodIn wsX8_unites wsX8_puts := goodIn_g _ [(12, 10), (6, 1), (22, 2), (8, 1), (24, 1), (64, 47)] (by exact rfl) (by decide +kernel)
set_option maxRecDepth 20000 in
theorem gX8_unites_X8_puts : GoodIn wsX8_unites (wsV RX8 198 RX8 yX8_puts wsX8_puts) := goodIn_app (goodIn_of _ (by decide +kernel)) ggX8_unites_X8_puts
set_option maxRecDepth 20000 in
theorem ggX8_unites_X8_adds : GoodIn wsX8_unites wsX8_adds := goodIn_g _ [(22, 2), (8, 1), (24, 1), (64, 47)] (by exact rfl) (by decide +kernel)
set_option maxRecDepth 20000 in
theorem gX8_unites_X8_adds : GoodIn wsX8_unites (wsV RX8 180 RX8 yX8_adds wsX8_adds) := goodIn_app (goodIn_of _ (by decide +kernel)) ggX8_unites_X8_adds
set_option maxRecDepth 20000 in
theorem ggX8_unites_X8_isEndOf : GoodIn wsX8_unites wsX8_isEndOf := goodIn_g _ [(28, 2), (64, 47)] (by exact rfl) (by decide +kernel)
set_option maxRecDepth 20000 in
theorem gX8_unites_X8_isEndOf : GoodIn wsX8_unites (wsV RX8 201 RX8 yX8_isEndOf wsX8_isEndOf) := goodIn_app (goodIn_of _ (by decide +kernel)) ggX8_unites_X8_isEndOf
set_option maxRecDepth 20000 in
theorem ggX8_unites_X8_trims : GoodIn wsX8_unites wsX8_trims := goodIn_g _ [(33, 6), (23, 1), (39, 4), (24, 1), (43, 2), (2, 1), (45, 3), (6, 1), (48, 2), (8, 1), (50, 61)] (by exact rfl) (by decide +kernel)
set_option maxRecDepth 20000 in
theorem gX8_unites_X8_trims : GoodIn wsX8_unites (wsV RX8 191 RX8 yX8_trims wsX8_trims) := goodIn_app (goodIn_of _ (by decide +kernel)) ggX8_unites_X8_trims
theorem dX8_unites_0 : decode cX8_unites 0 = .ok (.aload_n 0, 1) := by decide +kernel
theorem dX8_unites_1 : decode cX8_unites 1 = .ok (.invokevirtual 188, 3) := by decide +kernel
theorem dX8_unites_4 : decode cX8_unites 4 = .ok (.aload_n 0, 1) := by decide +kernel
theorem dX8_unites_5 : decode cX8_unites 5 = .ok (.iload_n 1, 1) := by decide +kernel
theorem dX8_unites_6 : decode cX8_unites 6 = .ok (.iconst 0, 1) := by decide +kernel
theorem dX8_unites_7 : decode cX8_unites 7 = .ok (.invokevirtual 198, 3) := by decide +kernel
theorem dX8_unites_10 : decode cX8_unites 10 = .ok (.aload_n 0, 1) := by decide +kernel
theorem dX8_unites_11 : decode cX8_unites 11 = .ok (.iload_n 2, 1) := by decide +kernel
theorem dX8_unites_12 : decode cX8_unites 12 = .ok (.aload_n 0, 1) := by decide +kernel
theorem dX8_unites_13 : decode cX8_unites 13 = .ok (.getfield 13, 3) := by decide +kernel
theorem dX8_unites_16 : decode cX8_unites 16 = .ok (.iload_n 1, 1) := by decide +kernel
theorem dX8_unites_17 : decode cX8_unites 17 = .ok (.iaload, 1) := by decide +kernel
theorem dX8_unites_18 : decode cX8_unites 18 = .ok (.invokevirtual 198, 3) := by decide +kernel
theorem dX8_unites_21 : decode cX8_unites 21 = .ok (.aload_n 0, 1) := by decide +kernel
theorem dX8_unites_22 : decode cX8_unites 22 = .ok (.getfield 13, 3) := by decide +kernel
theorem dX8_unites_25 : decode cX8_unites 25 = .ok (.iload_n 1, 1) := by decide +kernel
theorem dX8_unites_26 : decode cX8_unites 26 = .ok (.iaload, 1) := by decide +kernel
theorem dX8_unites_27 : decode cX8_unites 27 = .ok (.aload_n 0, 1) := by decide +kernel
theorem dX8_unites_28 : decode cX8_unites 28 = .ok (.getfield 13, 3) := by decide +kernel
theorem dX8_unites_31 : decode cX8_unites 31 = .ok (.iload_n 2, 1) := by decide +kernel
theorem dX8_unites_32 : decode cX8_unites 32 = .ok (.iaload, 1) := by decide +kernel
theorem dX8_unites_33 : decode cX8_unites 33 = .ok (.iadd, 1) := by decide +kernel
theorem dX8_unites_34 : decode cX8_unites 34 = .ok (.istore_n 3, 1) := by decide +kernel
theorem dX8_unites_35 : decode cX8_unites 35 = .ok (.aload_n 0, 1) := by decide +kernel
theorem dX8_unites_36 : decode cX8_unites 36 = .ok (.iload_n 3, 1) := by decide +kernel
theorem dX8_unites_37 : decode cX8_unites 37 = .ok (.bipush 8, 2) := by decide +kernel
theorem dX8_unites_39 : decode cX8_unites 39 = .ok (.bipush 8, 2) := by decide +kernel
theorem dX8_unites_41 : decode cX8_unites 41 = .ok (.iconst 0, 1) := by decide +kernel
theorem dX8_unites_42 : decode cX8_unites 42 = .ok (.iconst 0, 1) := by decide +kernel
theorem dX8_unites_43 : decode cX8_unites 43 = .ok (.invokevirtual 180, 3) := by decide +kernel
theorem dX8_unites_46 : decode cX8_unites 46 = .ok (.aload_n 0, 1) := by decide +kernel
theorem dX8_unites_47 : decode cX8_unites 47 = .ok (.iload_n 3, 1) := by decide +kernel
theorem dX8_unites_48 : decode cX8_unites 48 = .ok (.bipush 8, 2) := by decide +kernel
theorem dX8_unites_50 : decode cX8_unites 50 = .ok (.bipush 8, 2) := by decide +kernel
theorem dX8_unites_52 : decode cX8_unites 52 = .ok (.iconst 0, 1) := by decide +kernel
theorem dX8_unites_53 : decode cX8_unites 53 = .ok (.aload_n 0, 1) := by decide +kernel
theorem dX8_unites_54 : decode cX8_unites 54 = .ok (.getfield 13, 3) := by decide +kernel
theorem dX8_unites_57 : decode cX8_unites 57 = .ok (.iload_n 1, 1) := by decide +kernel
theorem dX8_unites_58 : decode cX8_unites 58 = .ok (.iaload, 1) := by decide +kernel
theorem dX8_unites_59 : decode cX8_unites 59 = .ok (.invokevirtual 180, 3) := by decide +kernel
theorem dX8_unites_62 : decode cX8_unites 62 = .ok (.iconst 0, 1) := by decide +kernel
theorem dX8_unites_63 : decode cX8_unites 63 = .ok (.istore 4, 2) := by decide +kernel
theorem dX8_unites_65 : decode cX8_unites 65 = .ok (.iload 4, 2) := by decide +kernel
theorem dX8_unites_67 : decode cX8_unites 67 = .ok (.iload_n 3, 1) := by decide +kernel
theorem dX8_unites_68 : decode cX8_unites 68 = .ok (.if_icmp .ge 51, 3) := by decide +kernel
theorem dX8_unites_71 : decode cX8_unites 71 = .ok (.aload_n 0, 1) := by decide +kernel
theorem dX8_unites_72 : decode cX8_unites 72 = .ok (.getfield 44, 3) := by decide +kernel
theorem dX8_unites_75 : decode cX8_unites 75 = .ok (.iload 4, 2) := by decide +kernel
theorem dX8_unites_77 : decode cX8_unites 77 = .ok (.iload 4, 2) := by decide +kernel
theorem dX8_unites_79 : decode cX8_unites 79 = .ok (.aload_n 0, 1) := by decide +kernel
theorem dX8_unites_80 : decode cX8_unites 80 = .ok (.getfield 13, 3) := by decide +kernel
theorem dX8_unites_83 : decode cX8_unites 83 = .ok (.iload_n 1, 1) := by decide +kernel
theorem dX8_unites_84 : decode cX8_unites 84 = .ok (.iaload, 1) := by decide +kernel
theorem dX8_unites_85 : decode cX8_unites 85 = .ok (.if_icmp .ge 13, 3) := by decide +kernel
theorem dX8_unites_88 : decode cX8_unites 88 = .ok (.aload_n 0, 1) := by decide +kernel
theorem dX8_unites_89 : decode cX8_unites 89 = .ok (.iload_n 1, 1) := by decide +kernel
theorem dX8_unites_90 : decode cX8_unites 90 = .ok (.iload 4, 2) := by decide +kernel
theorem dX8_unites_92 : decode cX8_unites 92 = .ok (.invokevirtual 201, 3) := by decide +kernel
theorem dX8_unites_95 : decode cX8_unites 95 = .ok (.goto 17, 3) := by decide +kernel
theorem dX8_unites_98 : decode cX8_unites 98 = .ok (.aload_n 0, 1) := by decide +kernel
theorem dX8_unites_99 : decode cX8_unites 99 = .ok (.iload_n 2, 1) := by decide +kernel
theorem dX8_unites_100 : decode cX8_unites 100 = .ok (.iload 4, 2) := by decide +kernel
theorem dX8_unites_102 : decode cX8_unites 102 = .ok (.aload_n 0, 1) := by decide +kernel
theorem dX8_unites_103 : decode cX8_unites 103 = .ok (.getfield 13, 3) := by decide +kernel
theorem dX8_unites_106 : decode cX8_unites 106 = .ok (.iload_n 1, 1) := by decide +kernel
theorem dX8_unites_107 : decode cX8_unites 107 = .ok (.iaload, 1) := by decide +kernel
theorem dX8_unites_108 : decode cX8_unites 108 = .ok (.isub, 1) := by decide +kernel
theorem dX8_unites_109 : decode cX8_unites 109 = .ok (.invokevirtual 201, 3) := by decide +kernel
theorem dX8_unites_112 : decode cX8_unites 112 = .ok (.bastore, 1) := by decide +kernel
theorem dX8_unites_113 : decode cX8_unites 113 = .ok (.iinc 4 1, 3) := by decide +kernel
theorem dX8_unites_116 : decode cX8_unites 116 = .ok (.goto (-51), 3) := by decide +kernel
theorem dX8_unites_119 : decode cX8_unites 119 = .ok (.aload_n 0, 1) := by decide +kernel
theorem dX8_unites_120 : decode cX8_unites 120 = .ok (.iload_n 3, 1) := by decide +kernel
theorem dX8_unites_121 : decode cX8_unites 121 = .ok (.invokevirtual 191, 3) := by decide +kernel
theorem dX8_unites_124 : decode cX8_unites 124 = .ok (.ireturn, 1) := by decide +kernel
set_option maxRecDepth 20000 in
theorem ggX8_unite_X8_isMachine : GoodIn wsX8_unite wsX8_isMachine := goodIn_g _ [(5, 4), (4, 1), (9, 1), (97, 47)] (by exact rfl) (by decide +kernel)
set_option maxRecDepth 20000 in
theorem gX8_unite_X8_isMachine : GoodIn wsX8_unite (wsV RX8 204 RX8 yX8_isMachine wsX8_isMachine) := goodIn_app (goodIn_of _ (by decide +kernel)) ggX8_unite_X8_isMachine
set_option maxRecDepth 20000 in
theorem ggX8_unite_X8_isThere : GoodIn wsX8_unite wsX8_isThere := goodIn_g _ [(13, 1), (6, 1), (97, 47)] (by exact rfl) (by decide +kernel)
set_option maxRecDepth 20000 in
theorem gX8_unite_X8_isThere : GoodIn wsX8_unite (wsV RX8 184 RX8 yX8_isThere wsX8_isThere) := goodIn_app (goodIn_of _ (by decide +kernel)) ggX8_unite_X8_isThere
set_option maxRecDepth 20000 in
theorem ggX8_unite_X8_unites : GoodIn wsX8_unite wsX8_unites := goodIn_g _ [(17, 6), (4, 1), (23, 57), (97, 47)] (by exact rfl) (by decide +kernel)
set_option maxRecDepth 20000 in
theorem gX8_unite_X8_unites : GoodIn wsX8_unite (wsV RX8 210 RX8 yX8_unites wsX8_unites) := goodIn_app (goodIn_of _ (by decide +kernel)) ggX8_unite_X8_unites
set_option maxRecDepth 20000 in
theorem ggX8_unite_X8_isFine : GoodIn wsX8_unite wsX8_isFine := goodIn_g _ [(83, 2), (97, 47)] (by exact rfl) (by decide +kernel)
set_option maxRecDepth 20000 in
theorem gX8_unite_X8_isFine : GoodIn wsX8_unite (wsV RX8 138 RX8 yX8_isFine wsX8_isFine) := goodIn_app (goodIn_of _ (by decide +kernel)) ggX8_unite_X8_isFine
set_option maxRecDepth 20000 in
theorem ggX8_unite_X8_keeps : GoodIn wsX8_unite wsX8_keeps := goodIn_g _ [(88, 1), (52, 1), (6, 1), (18, 1), (51, 1), (45, 1), (60, 1), (29, 2), (55, 1), (31, 1), (56, 1), (32, 1), (57, 1), (33, 1), (58, 1), (34, 1), (59, 1), (89, 3), (4, 1), (92, 52)] (by exact rfl) (by decide +kernel)
set_option maxRecDepth 20000 in
theorem gX8_unite_X8_keeps : GoodIn wsX8_unite (wsV RX8 194 RX8 yX8_keeps wsX8_keeps) := goodIn_app (goodIn_of _ (by decide +kernel)) ggX8_unite_X8_keeps
theorem dX8_unite_0 : decode cX8_unite 0 = .ok (.aload_n 0, 1) := by decide +kernel
theorem dX8_unite_1 : decode cX8_unite 1 = .ok (.iload_n 1, 1) := by decide +kernel
theorem dX8_unite_2 : decode cX8_unite 2 = .ok (.invokevirtual 204, 3) := by decide +kernel
theorem dX8_unite_5 : decode cX8_unite 5 = .ok (.ifCond .eq 15, 3) := by decide +kernel
theorem dX8_unite_8 : decode cX8_unite 8 = .ok (.aload_n 0, 1) := by decide +kernel
theorem dX8_unite_9 : decode cX8_unite 9 = .ok (.iload_n 2, 1) := by decide +kernel
theorem dX8_unite_10 : decode cX8_unite 10 = .ok (.invokevirtual 204, 3) := by decide +kernel
theorem dX8_unite_13 : decode cX8_unite 13 = .ok (.ifCond .eq 7, 3) := by decide +kernel
theorem dX8_unite_16 : decode cX8_unite 16 = .ok (.iconst 1, 1) := by decide +kernel
theorem dX8_unite_17 : decode cX8_unite 17 = .ok (.goto 4, 3) := by decide +kernel
theorem dX8_unite_20 : decode cX8_unite 20 = .ok (.iconst 0, 1) := by decide +kernel
theorem dX8_unite_21 : decode cX8_unite 21 = .ok (.istore_n 3, 1) := by decide +kernel
theorem dX8_unite_22 : decode cX8_unite 22 = .ok (.aload_n 0, 1) := by decide +kernel
theorem dX8_unite_23 : decode cX8_unite 23 = .ok (.iload_n 3, 1) := by decide +kernel
theorem dX8_unite_24 : decode cX8_unite 24 = .ok (.ifCond .ne 7, 3) := by decide +kernel
theorem dX8_unite_27 : decode cX8_unite 27 = .ok (.iconst 1, 1) := by decide +kernel
theorem dX8_unite_28 : decode cX8_unite 28 = .ok (.goto 24, 3) := by decide +kernel
theorem dX8_unite_31 : decode cX8_unite 31 = .ok (.aload_n 0, 1) := by decide +kernel
theorem dX8_unite_32 : decode cX8_unite 32 = .ok (.invokevirtual 184, 3) := by decide +kernel
theorem dX8_unite_35 : decode cX8_unite 35 = .ok (.ifCond .eq 12, 3) := by decide +kernel
theorem dX8_unite_38 : decode cX8_unite 38 = .ok (.aload_n 0, 1) := by decide +kernel
theorem dX8_unite_39 : decode cX8_unite 39 = .ok (.iload_n 1, 1) := by decide +kernel
theorem dX8_unite_40 : decode cX8_unite 40 = .ok (.iload_n 2, 1) := by decide +kernel
theorem dX8_unite_41 : decode cX8_unite 41 = .ok (.invokevirtual 210, 3) := by decide +kernel
theorem dX8_unite_44 : decode cX8_unite 44 = .ok (.ifCond .ne 7, 3) := by decide +kernel
theorem dX8_unite_47 : decode cX8_unite 47 = .ok (.iconst 2, 1) := by decide +kernel
theorem dX8_unite_48 : decode cX8_unite 48 = .ok (.goto 4, 3) := by decide +kernel
theorem dX8_unite_51 : decode cX8_unite 51 = .ok (.iconst 0, 1) := by decide +kernel
theorem dX8_unite_52 : decode cX8_unite 52 = .ok (.invokevirtual 138, 3) := by decide +kernel
theorem dX8_unite_55 : decode cX8_unite 55 = .ok (.ifCond .ne 5, 3) := by decide +kernel
theorem dX8_unite_58 : decode cX8_unite 58 = .ok (.iconst 0, 1) := by decide +kernel
theorem dX8_unite_59 : decode cX8_unite 59 = .ok (.ireturn, 1) := by decide +kernel
theorem dX8_unite_60 : decode cX8_unite 60 = .ok (.aload_n 0, 1) := by decide +kernel
theorem dX8_unite_61 : decode cX8_unite 61 = .ok (.invokevirtual 194, 3) := by decide +kernel
theorem dX8_unite_64 : decode cX8_unite 64 = .ok (.ireturn, 1) := by decide +kernel
theorem dX8_hasEmpty_0 : decode cX8_hasEmpty 0 = .ok (.iconst 1, 1) := by decide +kernel
theorem dX8_hasEmpty_1 : decode cX8_hasEmpty 1 = .ok (.istore_n 3, 1) := by decide +kernel
theorem dX8_hasEmpty_2 : decode cX8_hasEmpty 2 = .ok (.iconst 0, 1) := by decide +kernel
theorem dX8_hasEmpty_3 : decode cX8_hasEmpty 3 = .ok (.istore 4, 2) := by decide +kernel
theorem dX8_hasEmpty_5 : decode cX8_hasEmpty 5 = .ok (.iload 4, 2) := by decide +kernel
theorem dX8_hasEmpty_7 : decode cX8_hasEmpty 7 = .ok (.bipush 32, 2) := by decide +kernel
theorem dX8_hasEmpty_9 : decode cX8_hasEmpty 9 = .ok (.if_icmp .ge 108, 3) := by decide +kernel
theorem dX8_hasEmpty_12 : decode cX8_hasEmpty 12 = .ok (.sipush 160, 3) := by decide +kernel
theorem dX8_hasEmpty_15 : decode cX8_hasEmpty 15 = .ok (.iload_n 1, 1) := by decide +kernel
theorem dX8_hasEmpty_16 : decode cX8_hasEmpty 16 = .ok (.imul, 1) := by decide +kernel
theorem dX8_hasEmpty_17 : decode cX8_hasEmpty 17 = .ok (.istore 5, 2) := by decide +kernel
theorem dX8_hasEmpty_19 : decode cX8_hasEmpty 19 = .ok (.iload 5, 2) := by decide +kernel
theorem dX8_hasEmpty_21 : decode cX8_hasEmpty 21 = .ok (.sipush 160, 3) := by decide +kernel
theorem dX8_hasEmpty_24 : decode cX8_hasEmpty 24 = .ok (.iload_n 1, 1) := by decide +kernel
theorem dX8_hasEmpty_25 : decode cX8_hasEmpty 25 = .ok (.imul, 1) := by decide +kernel
theorem dX8_hasEmpty_26 : decode cX8_hasEmpty 26 = .ok (.aload_n 0, 1) := by decide +kernel
theorem dX8_hasEmpty_27 : decode cX8_hasEmpty 27 = .ok (.getfield 19, 3) := by decide +kernel
theorem dX8_hasEmpty_30 : decode cX8_hasEmpty 30 = .ok (.iload_n 1, 1) := by decide +kernel
theorem dX8_hasEmpty_31 : decode cX8_hasEmpty 31 = .ok (.iaload, 1) := by decide +kernel
theorem dX8_hasEmpty_32 : decode cX8_hasEmpty 32 = .ok (.iadd, 1) := by decide +kernel
theorem dX8_hasEmpty_33 : decode cX8_hasEmpty 33 = .ok (.if_icmp .ge 78, 3) := by decide +kernel
theorem dX8_hasEmpty_36 : decode cX8_hasEmpty 36 = .ok (.iload_n 3, 1) := by decide +kernel
theorem dX8_hasEmpty_37 : decode cX8_hasEmpty 37 = .ok (.aload_n 0, 1) := by decide +kernel
theorem dX8_hasEmpty_38 : decode cX8_hasEmpty 38 = .ok (.getfield 22, 3) := by decide +kernel
theorem dX8_hasEmpty_41 : decode cX8_hasEmpty 41 = .ok (.iload 5, 2) := by decide +kernel
theorem dX8_hasEmpty_43 : decode cX8_hasEmpty 43 = .ok (.iaload, 1) := by decide +kernel
theorem dX8_hasEmpty_44 : decode cX8_hasEmpty 44 = .ok (.ishr, 1) := by decide +kernel
theorem dX8_hasEmpty_45 : decode cX8_hasEmpty 45 = .ok (.iconst 1, 1) := by decide +kernel
theorem dX8_hasEmpty_46 : decode cX8_hasEmpty 46 = .ok (.iand, 1) := by decide +kernel
theorem dX8_hasEmpty_47 : decode cX8_hasEmpty 47 = .ok (.iconst 1, 1) := by decide +kernel
theorem dX8_hasEmpty_48 : decode cX8_hasEmpty 48 = .ok (.if_icmp .ne 33, 3) := by decide +kernel
theorem dX8_hasEmpty_51 : decode cX8_hasEmpty 51 = .ok (.iload_n 2, 1) := by decide +kernel
theorem dX8_hasEmpty_52 : decode cX8_hasEmpty 52 = .ok (.ifCond .eq 13, 3) := by decide +kernel
theorem dX8_hasEmpty_55 : decode cX8_hasEmpty 55 = .ok (.aload_n 0, 1) := by decide +kernel
theorem dX8_hasEmpty_56 : decode cX8_hasEmpty 56 = .ok (.getfield 25, 3) := by decide +kernel
theorem dX8_hasEmpty_59 : decode cX8_hasEmpty 59 = .ok (.iload 5, 2) := by decide +kernel
theorem dX8_hasEmpty_61 : decode cX8_hasEmpty 61 = .ok (.iaload, 1) := by decide +kernel
theorem dX8_hasEmpty_62 : decode cX8_hasEmpty 62 = .ok (.goto 10, 3) := by decide +kernel
theorem dX8_hasEmpty_65 : decode cX8_hasEmpty 65 = .ok (.aload_n 0, 1) := by decide +kernel
theorem dX8_hasEmpty_66 : decode cX8_hasEmpty 66 = .ok (.getfield 28, 3) := by decide +kernel
theorem dX8_hasEmpty_69 : decode cX8_hasEmpty 69 = .ok (.iload 5, 2) := by decide +kernel
theorem dX8_hasEmpty_71 : decode cX8_hasEmpty 71 = .ok (.iaload, 1) := by decide +kernel
theorem dX8_hasEmpty_72 : decode cX8_hasEmpty 72 = .ok (.bipush 8, 2) := by decide +kernel
theorem dX8_hasEmpty_74 : decode cX8_hasEmpty 74 = .ok (.if_icmp .ne 7, 3) := by decide +kernel
theorem dX8_hasEmpty_77 : decode cX8_hasEmpty 77 = .ok (.iconst 1, 1) := by decide +kernel
theorem dX8_hasEmpty_78 : decode cX8_hasEmpty 78 = .ok (.goto 4, 3) := by decide +kernel
theorem dX8_hasEmpty_81 : decode cX8_hasEmpty 81 = .ok (.iconst 0, 1) := by decide +kernel
theorem dX8_hasEmpty_82 : decode cX8_hasEmpty 82 = .ok (.istore 6, 2) := by decide +kernel
theorem dX8_hasEmpty_84 : decode cX8_hasEmpty 84 = .ok (.iload_n 3, 1) := by decide +kernel
theorem dX8_hasEmpty_85 : decode cX8_hasEmpty 85 = .ok (.iload 6, 2) := by decide +kernel
theorem dX8_hasEmpty_87 : decode cX8_hasEmpty 87 = .ok (.ifCond .eq 15, 3) := by decide +kernel
theorem dX8_hasEmpty_90 : decode cX8_hasEmpty 90 = .ok (.iconst 1, 1) := by decide +kernel
theorem dX8_hasEmpty_91 : decode cX8_hasEmpty 91 = .ok (.aload_n 0, 1) := by decide +kernel
theorem dX8_hasEmpty_92 : decode cX8_hasEmpty 92 = .ok (.getfield 34, 3) := by decide +kernel
theorem dX8_hasEmpty_95 : decode cX8_hasEmpty 95 = .ok (.iload 5, 2) := by decide +kernel
theorem dX8_hasEmpty_97 : decode cX8_hasEmpty 97 = .ok (.iaload, 1) := by decide +kernel
theorem dX8_hasEmpty_98 : decode cX8_hasEmpty 98 = .ok (.ishl, 1) := by decide +kernel
theorem dX8_hasEmpty_99 : decode cX8_hasEmpty 99 = .ok (.goto 4, 3) := by decide +kernel
theorem dX8_hasEmpty_102 : decode cX8_hasEmpty 102 = .ok (.iconst 0, 1) := by decide +kernel
theorem dX8_hasEmpty_103 : decode cX8_hasEmpty 103 = .ok (.ior, 1) := by decide +kernel
theorem dX8_hasEmpty_104 : decode cX8_hasEmpty 104 = .ok (.istore_n 3, 1) := by decide +kernel
theorem dX8_hasEmpty_105 : decode cX8_hasEmpty 105 = .ok (.iinc 5 1, 3) := by decide +kernel
theorem dX8_hasEmpty_108 : decode cX8_hasEmpty 108 = .ok (.goto (-89), 3) := by decide +kernel
theorem dX8_hasEmpty_111 : decode cX8_hasEmpty 111 = .ok (.iinc 4 1, 3) := by decide +kernel
theorem dX8_hasEmpty_114 : decode cX8_hasEmpty 114 = .ok (.goto (-109), 3) := by decide +kernel
theorem dX8_hasEmpty_117 : decode cX8_hasEmpty 117 = .ok (.iload_n 3, 1) := by decide +kernel
theorem dX8_hasEmpty_118 : decode cX8_hasEmpty 118 = .ok (.aload_n 0, 1) := by decide +kernel
theorem dX8_hasEmpty_119 : decode cX8_hasEmpty 119 = .ok (.getfield 16, 3) := by decide +kernel
theorem dX8_hasEmpty_122 : decode cX8_hasEmpty 122 = .ok (.iload_n 1, 1) := by decide +kernel
theorem dX8_hasEmpty_123 : decode cX8_hasEmpty 123 = .ok (.iaload, 1) := by decide +kernel
theorem dX8_hasEmpty_124 : decode cX8_hasEmpty 124 = .ok (.iand, 1) := by decide +kernel
theorem dX8_hasEmpty_125 : decode cX8_hasEmpty 125 = .ok (.ifCond .eq 7, 3) := by decide +kernel
theorem dX8_hasEmpty_128 : decode cX8_hasEmpty 128 = .ok (.iconst 1, 1) := by decide +kernel
theorem dX8_hasEmpty_129 : decode cX8_hasEmpty 129 = .ok (.goto 4, 3) := by decide +kernel
theorem dX8_hasEmpty_132 : decode cX8_hasEmpty 132 = .ok (.iconst 0, 1) := by decide +kernel
theorem dX8_hasEmpty_133 : decode cX8_hasEmpty 133 = .ok (.ireturn, 1) := by decide +kernel
set_option maxRecDepth 20000 in
theorem ggX8_repeats_X8_begins : GoodIn wsX8_repeats wsX8_begins := goodIn_g _ [(7, 2), (2, 1), (64, 47)] (by exact rfl) (by decide +kernel)
set_option maxRecDepth 20000 in
theorem gX8_repeats_X8_begins : GoodIn wsX8_repeats (wsV RX8 188 RX8 yX8_begins wsX8_begins) := goodIn_app (goodIn_of _ (by decide +kernel)) ggX8_repeats_X8_begins
set_option maxRecDepth 20000 in
theorem ggX8_repeats_X8_puts : GoodIn wsX8_repeats wsX8_puts := goodIn_g _ [(12, 10), (6, 1), (22, 2), (8, 1), (24, 1), (64, 47)] (by exact rfl) (by decide +kernel)
set_option maxRecDepth 20000 in
theorem gX8_repeats_X8_puts : GoodIn wsX8_repeats (wsV RX8 198 RX8 yX8_puts wsX8_puts) := goodIn_app (goodIn_of _ (by decide +kernel)) ggX8_repeats_X8_puts
set_option maxRecDepth 20000 in
theorem ggX8_repeats_X8_adds : GoodIn wsX8_repeats wsX8_adds := goodIn_g _ [(22, 2), (8, 1), (24, 1), (64, 47)] (by exact rfl) (by decide +kernel)
set_option maxRecDepth 20000 in
theorem gX8_repeats_X8_adds : GoodIn wsX8_repeats (wsV RX8 180 RX8 yX8_adds wsX8_adds) := goodIn_app (goodIn_of _ (by decide +kernel)) ggX8_repeats_X8_adds
set_option maxRecDepth 20000 in
theorem ggX8_repeats_X8_isEndOf : GoodIn wsX8_repeats wsX8_isEndOf := goodIn_g _ [(28, 2), (64, 47)] (by exact rfl) (by decide +kernel)
set_option maxRecDepth 20000 in
theorem gX8_repeats_X8_isEndOf : GoodIn wsX8_repeats (wsV RX8 201 RX8 yX8_isEndOf wsX8_isEndOf) := goodIn_app (goodIn_of _ (by decide +kernel)) ggX8_repeats_X8_isEndOf
set_option maxRecDepth 20000 in
theorem ggX8_repeats_X8_trims : GoodIn wsX8_repeats wsX8_trims := goodIn_g _ [(33, 6), (23, 1), (39, 4), (24, 1), (43, 2), (2, 1), (45, 3), (6, 1), (48, 2), (8, 1), (50, 61)] (by exact rfl) (by decide +kernel)
set_option maxRecDepth 20000 in
theorem gX8_repeats_X8_trims : GoodIn wsX8_repeats (wsV RX8 191 RX8 yX8_trims wsX8_trims) := goodIn_app (goodIn_of _ (by decide +kernel)) ggX8_repeats_X8_trims
theorem dX8_repeats_0 : decode cX8_repeats 0 = .ok (.aload_n 0, 1) := by decide +kernel
theorem dX8_repeats_1 : decode cX8_repeats 1 = .ok (.invokevirtual 188, 3) := by decide +kernel
theorem dX8_repeats_4 : decode cX8_repeats 4 = .ok (.aload_n 0, 1) := by decide +kernel
theorem dX8_repeats_5 : decode cX8_repeats 5 = .ok (.iload_n 1, 1) := by decide +kernel
theorem dX8_repeats_6 : decode cX8_repeats 6 = .ok (.iconst 0, 1) := by decide +kernel
theorem dX8_repeats_7 : decode cX8_repeats 7 = .ok (.invokevirtual 198, 3) := by decide +kernel
theorem dX8_repeats_10 : decode cX8_repeats 10 = .ok (.aload_n 0, 1) := by decide +kernel
theorem dX8_repeats_11 : decode cX8_repeats 11 = .ok (.getfield 13, 3) := by decide +kernel
theorem dX8_repeats_14 : decode cX8_repeats 14 = .ok (.iload_n 1, 1) := by decide +kernel
theorem dX8_repeats_15 : decode cX8_repeats 15 = .ok (.iaload, 1) := by decide +kernel
theorem dX8_repeats_16 : decode cX8_repeats 16 = .ok (.istore_n 2, 1) := by decide +kernel
theorem dX8_repeats_17 : decode cX8_repeats 17 = .ok (.aload_n 0, 1) := by decide +kernel
theorem dX8_repeats_18 : decode cX8_repeats 18 = .ok (.iload_n 2, 1) := by decide +kernel
theorem dX8_repeats_19 : decode cX8_repeats 19 = .ok (.bipush 8, 2) := by decide +kernel
theorem dX8_repeats_21 : decode cX8_repeats 21 = .ok (.bipush 8, 2) := by decide +kernel
theorem dX8_repeats_23 : decode cX8_repeats 23 = .ok (.iconst 0, 1) := by decide +kernel
theorem dX8_repeats_24 : decode cX8_repeats 24 = .ok (.iconst 0, 1) := by decide +kernel
theorem dX8_repeats_25 : decode cX8_repeats 25 = .ok (.invokevirtual 180, 3) := by decide +kernel
theorem dX8_repeats_28 : decode cX8_repeats 28 = .ok (.iconst 0, 1) := by decide +kernel
theorem dX8_repeats_29 : decode cX8_repeats 29 = .ok (.istore_n 3, 1) := by decide +kernel
theorem dX8_repeats_30 : decode cX8_repeats 30 = .ok (.iload_n 3, 1) := by decide +kernel
theorem dX8_repeats_31 : decode cX8_repeats 31 = .ok (.iload_n 2, 1) := by decide +kernel
theorem dX8_repeats_32 : decode cX8_repeats 32 = .ok (.if_icmp .ge 29, 3) := by decide +kernel
theorem dX8_repeats_35 : decode cX8_repeats 35 = .ok (.aload_n 0, 1) := by decide +kernel
theorem dX8_repeats_36 : decode cX8_repeats 36 = .ok (.iload_n 1, 1) := by decide +kernel
theorem dX8_repeats_37 : decode cX8_repeats 37 = .ok (.iload_n 3, 1) := by decide +kernel
theorem dX8_repeats_38 : decode cX8_repeats 38 = .ok (.invokevirtual 201, 3) := by decide +kernel
theorem dX8_repeats_41 : decode cX8_repeats 41 = .ok (.ifCond .eq 14, 3) := by decide +kernel
theorem dX8_repeats_44 : decode cX8_repeats 44 = .ok (.aload_n 0, 1) := by decide +kernel
theorem dX8_repeats_45 : decode cX8_repeats 45 = .ok (.iload_n 3, 1) := by decide +kernel
theorem dX8_repeats_46 : decode cX8_repeats 46 = .ok (.bipush 8, 2) := by decide +kernel
theorem dX8_repeats_48 : decode cX8_repeats 48 = .ok (.bipush 8, 2) := by decide +kernel
theorem dX8_repeats_50 : decode cX8_repeats 50 = .ok (.iconst 0, 1) := by decide +kernel
theorem dX8_repeats_51 : decode cX8_repeats 51 = .ok (.iload_n 2, 1) := by decide +kernel
theorem dX8_repeats_52 : decode cX8_repeats 52 = .ok (.invokevirtual 180, 3) := by decide +kernel
theorem dX8_repeats_55 : decode cX8_repeats 55 = .ok (.iinc 3 1, 3) := by decide +kernel
theorem dX8_repeats_58 : decode cX8_repeats 58 = .ok (.goto (-28), 3) := by decide +kernel
theorem dX8_repeats_61 : decode cX8_repeats 61 = .ok (.aload_n 0, 1) := by decide +kernel
theorem dX8_repeats_62 : decode cX8_repeats 62 = .ok (.getfield 44, 3) := by decide +kernel
theorem dX8_repeats_65 : decode cX8_repeats 65 = .ok (.iload_n 2, 1) := by decide +kernel
theorem dX8_repeats_66 : decode cX8_repeats 66 = .ok (.iconst 1, 1) := by decide +kernel
theorem dX8_repeats_67 : decode cX8_repeats 67 = .ok (.bastore, 1) := by decide +kernel
theorem dX8_repeats_68 : decode cX8_repeats 68 = .ok (.aload_n 0, 1) := by decide +kernel
theorem dX8_repeats_69 : decode cX8_repeats 69 = .ok (.iload_n 2, 1) := by decide +kernel
theorem dX8_repeats_70 : decode cX8_repeats 70 = .ok (.invokevirtual 191, 3) := by decide +kernel
theorem dX8_repeats_73 : decode cX8_repeats 73 = .ok (.ireturn, 1) := by decide +kernel
set_option maxRecDepth 20000 in
theorem ggX8_repeat_X8_isMachine : GoodIn wsX8_repeat wsX8_isMachine := goodIn_g _ [(5, 4), (4, 1), (9, 1), (101, 47)] (by exact rfl) (by decide +kernel)
set_option maxRecDepth 20000 in
theorem gX8_repeat_X8_isMachine : GoodIn wsX8_repeat (wsV RX8 204 RX8 yX8_isMachine wsX8_isMachine) := goodIn_app (goodIn_of _ (by decide +kernel)) ggX8_repeat_X8_isMachine
set_option maxRecDepth 20000 in
theorem ggX8_repeat_X8_isThere : GoodIn wsX8_repeat wsX8_isThere := goodIn_g _ [(13, 1), (6, 1), (101, 47)] (by exact rfl) (by decide +kernel)
set_option maxRecDepth 20000 in
theorem gX8_repeat_X8_isThere : GoodIn wsX8_repeat (wsV RX8 184 RX8 yX8_isThere wsX8_isThere) := goodIn_app (goodIn_of _ (by decide +kernel)) ggX8_repeat_X8_isThere
set_option maxRecDepth 20000 in
theorem ggX8_repeat_X8_hasEmpty : GoodIn wsX8_repeat wsX8_hasEmpty := goodIn_g _ [(17, 7), (101, 47)] (by exact rfl) (by decide +kernel)
set_option maxRecDepth 20000 in
theorem gX8_repeat_X8_hasEmpty : GoodIn wsX8_repeat (wsV RX8 213 RX8 yX8_hasEmpty wsX8_hasEmpty) := goodIn_app (goodIn_of _ (by decide +kernel)) ggX8_repeat_X8_hasEmpty
set_option maxRecDepth 20000 in
theorem ggX8_repeat_X8_repeats : GoodIn wsX8_repeat wsX8_repeats := goodIn_g _ [(27, 6), (4, 1), (33, 6), (18, 4), (39, 1), (22, 1), (40, 10), (23, 1), (50, 34), (101, 47)] (by exact rfl) (by decide +kernel)
set_option maxRecDepth 20000 in
theorem gX8_repeat_X8_repeats : GoodIn wsX8_repeat (wsV RX8 217 RX8 yX8_repeats wsX8_repeats) := goodIn_app (goodIn_of _ (by decide +kernel)) ggX8_repeat_X8_repeats
set_option maxRecDepth 20000 in
theorem ggX8_repeat_X8_isFine : GoodIn wsX8_repeat wsX8_isFine := goodIn_g _ [(87, 2), (101, 47)] (by exact rfl) (by decide +kernel)
set_option maxRecDepth 20000 in
theorem gX8_repeat_X8_isFine : GoodIn wsX8_repeat (wsV RX8 138 RX8 yX8_isFine wsX8_isFine) := goodIn_app (goodIn_of _ (by decide +kernel)) ggX8_repeat_X8_isFine
set_option maxRecDepth 20000 in
theorem ggX8_repeat_X8_keeps : GoodIn wsX8_repeat wsX8_keeps := goodIn_g _ [(92, 1), (56, 1), (6, 1), (28, 1), (55, 1), (23, 1), (64, 1), (18, 2), (59, 1), (20, 1), (60, 1), (21, 1), (61, 1), (39, 1), (62, 1), (22, 1), (63, 1), (93, 3), (4, 1), (96, 52)] (by exact rfl) (by decide +kernel)
set_option maxRecDepth 20000 in
theorem gX8_repeat_X8_keeps : GoodIn wsX8_repeat (wsV RX8 194 RX8 yX8_keeps wsX8_keeps) := goodIn_app (goodIn_of _ (by decide +kernel)) ggX8_repeat_X8_keeps
theorem dX8_repeat_0 : decode cX8_repeat 0 = .ok (.aload_n 0, 1) := by decide +kernel
theorem dX8_repeat_1 : decode cX8_repeat 1 = .ok (.iload_n 1, 1) := by decide +kernel
theorem dX8_repeat_2 : decode cX8_repeat 2 = .ok (.invokevirtual 204, 3) := by decide +kernel
theorem dX8_repeat_5 : decode cX8_repeat 5 = .ok (.istore_n 2, 1) := by decide +kernel
theorem dX8_repeat_6 : decode cX8_repeat 6 = .ok (.iload_n 2, 1) := by decide +kernel
theorem dX8_repeat_7 : decode cX8_repeat 7 = .ok (.ifCond .eq 32, 3) := by decide +kernel
theorem dX8_repeat_10 : decode cX8_repeat 10 = .ok (.aload_n 0, 1) := by decide +kernel
theorem dX8_repeat_11 : decode cX8_repeat 11 = .ok (.invokevirtual 184, 3) := by decide +kernel
theorem dX8_repeat_14 : decode cX8_repeat 14 = .ok (.ifCond .eq 25, 3) := by decide +kernel
theorem dX8_repeat_17 : decode cX8_repeat 17 = .ok (.aload_n 0, 1) := by decide +kernel
theorem dX8_repeat_18 : decode cX8_repeat 18 = .ok (.iload_n 1, 1) := by decide +kernel
theorem dX8_repeat_19 : decode cX8_repeat 19 = .ok (.iconst 1, 1) := by decide +kernel
theorem dX8_repeat_20 : decode cX8_repeat 20 = .ok (.invokevirtual 213, 3) := by decide +kernel
theorem dX8_repeat_23 : decode cX8_repeat 23 = .ok (.ifCond .ne 16, 3) := by decide +kernel
theorem dX8_repeat_26 : decode cX8_repeat 26 = .ok (.aload_n 0, 1) := by decide +kernel
theorem dX8_repeat_27 : decode cX8_repeat 27 = .ok (.iload_n 1, 1) := by decide +kernel
theorem dX8_repeat_28 : decode cX8_repeat 28 = .ok (.iconst 0, 1) := by decide +kernel
theorem dX8_repeat_29 : decode cX8_repeat 29 = .ok (.invokevirtual 213, 3) := by decide +kernel
theorem dX8_repeat_32 : decode cX8_repeat 32 = .ok (.ifCond .ne 7, 3) := by decide +kernel
theorem dX8_repeat_35 : decode cX8_repeat 35 = .ok (.iconst 1, 1) := by decide +kernel
theorem dX8_repeat_36 : decode cX8_repeat 36 = .ok (.goto 4, 3) := by decide +kernel
theorem dX8_repeat_39 : decode cX8_repeat 39 = .ok (.iconst 0, 1) := by decide +kernel
theorem dX8_repeat_40 : decode cX8_repeat 40 = .ok (.istore_n 3, 1) := by decide +kernel
theorem dX8_repeat_41 : decode cX8_repeat 41 = .ok (.aload_n 0, 1) := by decide +kernel
theorem dX8_repeat_42 : decode cX8_repeat 42 = .ok (.iload_n 2, 1) := by decide +kernel
theorem dX8_repeat_43 : decode cX8_repeat 43 = .ok (.ifCond .ne 7, 3) := by decide +kernel
theorem dX8_repeat_46 : decode cX8_repeat 46 = .ok (.iconst 1, 1) := by decide +kernel
theorem dX8_repeat_47 : decode cX8_repeat 47 = .ok (.goto 20, 3) := by decide +kernel
theorem dX8_repeat_50 : decode cX8_repeat 50 = .ok (.iload_n 3, 1) := by decide +kernel
theorem dX8_repeat_51 : decode cX8_repeat 51 = .ok (.ifCond .eq 11, 3) := by decide +kernel
theorem dX8_repeat_54 : decode cX8_repeat 54 = .ok (.aload_n 0, 1) := by decide +kernel
theorem dX8_repeat_55 : decode cX8_repeat 55 = .ok (.iload_n 1, 1) := by decide +kernel
theorem dX8_repeat_56 : decode cX8_repeat 56 = .ok (.invokevirtual 217, 3) := by decide +kernel
theorem dX8_repeat_59 : decode cX8_repeat 59 = .ok (.ifCond .ne 7, 3) := by decide +kernel
theorem dX8_repeat_62 : decode cX8_repeat 62 = .ok (.iconst 2, 1) := by decide +kernel
theorem dX8_repeat_63 : decode cX8_repeat 63 = .ok (.goto 4, 3) := by decide +kernel
theorem dX8_repeat_66 : decode cX8_repeat 66 = .ok (.iconst 0, 1) := by decide +kernel
theorem dX8_repeat_67 : decode cX8_repeat 67 = .ok (.invokevirtual 138, 3) := by decide +kernel
theorem dX8_repeat_70 : decode cX8_repeat 70 = .ok (.ifCond .ne 5, 3) := by decide +kernel
theorem dX8_repeat_73 : decode cX8_repeat 73 = .ok (.iconst 0, 1) := by decide +kernel
theorem dX8_repeat_74 : decode cX8_repeat 74 = .ok (.ireturn, 1) := by decide +kernel
theorem dX8_repeat_75 : decode cX8_repeat 75 = .ok (.aload_n 0, 1) := by decide +kernel
theorem dX8_repeat_76 : decode cX8_repeat 76 = .ok (.invokevirtual 194, 3) := by decide +kernel
theorem dX8_repeat_79 : decode cX8_repeat 79 = .ok (.ireturn, 1) := by decide +kernel
set_option maxRecDepth 20000 in
theorem ggX8_turns_X8_begins : GoodIn wsX8_turns wsX8_begins := goodIn_g _ [(13, 2), (8, 1), (60, 47)] (by exact rfl) (by decide +kernel)
set_option maxRecDepth 20000 in
theorem gX8_turns_X8_begins : GoodIn wsX8_turns (wsV RX8 188 RX8 yX8_begins wsX8_begins) := goodIn_app (goodIn_of _ (by decide +kernel)) ggX8_turns_X8_begins
set_option maxRecDepth 20000 in
theorem ggX8_turns_X8_adds : GoodIn wsX8_turns wsX8_adds := goodIn_g _ [(18, 2), (14, 1), (20, 1), (60, 47)] (by exact rfl) (by decide +kernel)
set_option maxRecDepth 20000 in
theorem gX8_turns_X8_adds : GoodIn wsX8_turns (wsV RX8 180 RX8 yX8_adds wsX8_adds) := goodIn_app (goodIn_of _ (by decide +kernel)) ggX8_turns_X8_adds
set_option maxRecDepth 20000 in
theorem ggX8_turns_X8_isEndOf : GoodIn wsX8_turns wsX8_isEndOf := goodIn_g _ [(24, 2), (60, 47)] (by exact rfl) (by decide +kernel)
set_option maxRecDepth 20000 in
theorem gX8_turns_X8_isEndOf : GoodIn wsX8_turns (wsV RX8 201 RX8 yX8_isEndOf wsX8_isEndOf) := goodIn_app (goodIn_of _ (by decide +kernel)) ggX8_turns_X8_isEndOf
set_option maxRecDepth 20000 in
theorem ggX8_turns_X8_trims : GoodIn wsX8_turns wsX8_trims := goodIn_g _ [(29, 6), (19, 1), (35, 4), (20, 1), (39, 2), (8, 1), (41, 3), (12, 1), (44, 2), (14, 1), (46, 61)] (by exact rfl) (by decide +kernel)
set_option maxRecDepth 20000 in
theorem gX8_turns_X8_trims : GoodIn wsX8_turns (wsV RX8 191 RX8 yX8_trims wsX8_trims) := goodIn_app (goodIn_of _ (by decide +kernel)) ggX8_turns_X8_trims
theorem dX8_turns_0 : decode cX8_turns 0 = .ok (.aload_n 0, 1) := by decide +kernel
theorem dX8_turns_1 : decode cX8_turns 1 = .ok (.invokevirtual 188, 3) := by decide +kernel
theorem dX8_turns_4 : decode cX8_turns 4 = .ok (.sipush 160, 3) := by decide +kernel
theorem dX8_turns_7 : decode cX8_turns 7 = .ok (.iload_n 1, 1) := by decide +kernel
theorem dX8_turns_8 : decode cX8_turns 8 = .ok (.imul, 1) := by decide +kernel
theorem dX8_turns_9 : decode cX8_turns 9 = .ok (.istore_n 2, 1) := by decide +kernel
theorem dX8_turns_10 : decode cX8_turns 10 = .ok (.iload_n 2, 1) := by decide +kernel
theorem dX8_turns_11 : decode cX8_turns 11 = .ok (.sipush 160, 3) := by decide +kernel
theorem dX8_turns_14 : decode cX8_turns 14 = .ok (.iload_n 1, 1) := by decide +kernel
theorem dX8_turns_15 : decode cX8_turns 15 = .ok (.imul, 1) := by decide +kernel
theorem dX8_turns_16 : decode cX8_turns 16 = .ok (.aload_n 0, 1) := by decide +kernel
theorem dX8_turns_17 : decode cX8_turns 17 = .ok (.getfield 19, 3) := by decide +kernel
theorem dX8_turns_20 : decode cX8_turns 20 = .ok (.iload_n 1, 1) := by decide +kernel
theorem dX8_turns_21 : decode cX8_turns 21 = .ok (.iaload, 1) := by decide +kernel
theorem dX8_turns_22 : decode cX8_turns 22 = .ok (.iadd, 1) := by decide +kernel
theorem dX8_turns_23 : decode cX8_turns 23 = .ok (.if_icmp .ge 43, 3) := by decide +kernel
theorem dX8_turns_26 : decode cX8_turns 26 = .ok (.aload_n 0, 1) := by decide +kernel
theorem dX8_turns_27 : decode cX8_turns 27 = .ok (.aload_n 0, 1) := by decide +kernel
theorem dX8_turns_28 : decode cX8_turns 28 = .ok (.getfield 22, 3) := by decide +kernel
theorem dX8_turns_31 : decode cX8_turns 31 = .ok (.iload_n 2, 1) := by decide +kernel
theorem dX8_turns_32 : decode cX8_turns 32 = .ok (.iaload, 1) := by decide +kernel
theorem dX8_turns_33 : decode cX8_turns 33 = .ok (.aload_n 0, 1) := by decide +kernel
theorem dX8_turns_34 : decode cX8_turns 34 = .ok (.getfield 28, 3) := by decide +kernel
theorem dX8_turns_37 : decode cX8_turns 37 = .ok (.iload_n 2, 1) := by decide +kernel
theorem dX8_turns_38 : decode cX8_turns 38 = .ok (.iaload, 1) := by decide +kernel
theorem dX8_turns_39 : decode cX8_turns 39 = .ok (.aload_n 0, 1) := by decide +kernel
theorem dX8_turns_40 : decode cX8_turns 40 = .ok (.getfield 25, 3) := by decide +kernel
theorem dX8_turns_43 : decode cX8_turns 43 = .ok (.iload_n 2, 1) := by decide +kernel
theorem dX8_turns_44 : decode cX8_turns 44 = .ok (.iaload, 1) := by decide +kernel
theorem dX8_turns_45 : decode cX8_turns 45 = .ok (.aload_n 0, 1) := by decide +kernel
theorem dX8_turns_46 : decode cX8_turns 46 = .ok (.getfield 31, 3) := by decide +kernel
theorem dX8_turns_49 : decode cX8_turns 49 = .ok (.iload_n 2, 1) := by decide +kernel
theorem dX8_turns_50 : decode cX8_turns 50 = .ok (.iaload, 1) := by decide +kernel
theorem dX8_turns_51 : decode cX8_turns 51 = .ok (.aload_n 0, 1) := by decide +kernel
theorem dX8_turns_52 : decode cX8_turns 52 = .ok (.getfield 34, 3) := by decide +kernel
theorem dX8_turns_55 : decode cX8_turns 55 = .ok (.iload_n 2, 1) := by decide +kernel
theorem dX8_turns_56 : decode cX8_turns 56 = .ok (.iaload, 1) := by decide +kernel
theorem dX8_turns_57 : decode cX8_turns 57 = .ok (.invokevirtual 180, 3) := by decide +kernel
theorem dX8_turns_60 : decode cX8_turns 60 = .ok (.iinc 2 1, 3) := by decide +kernel
theorem dX8_turns_63 : decode cX8_turns 63 = .ok (.goto (-53), 3) := by decide +kernel
theorem dX8_turns_66 : decode cX8_turns 66 = .ok (.iconst 0, 1) := by decide +kernel
theorem dX8_turns_67 : decode cX8_turns 67 = .ok (.istore_n 2, 1) := by decide +kernel
theorem dX8_turns_68 : decode cX8_turns 68 = .ok (.iload_n 2, 1) := by decide +kernel
theorem dX8_turns_69 : decode cX8_turns 69 = .ok (.aload_n 0, 1) := by decide +kernel
theorem dX8_turns_70 : decode cX8_turns 70 = .ok (.getfield 13, 3) := by decide +kernel
theorem dX8_turns_73 : decode cX8_turns 73 = .ok (.iload_n 1, 1) := by decide +kernel
theorem dX8_turns_74 : decode cX8_turns 74 = .ok (.iaload, 1) := by decide +kernel
theorem dX8_turns_75 : decode cX8_turns 75 = .ok (.if_icmp .ge 21, 3) := by decide +kernel
theorem dX8_turns_78 : decode cX8_turns 78 = .ok (.aload_n 0, 1) := by decide +kernel
theorem dX8_turns_79 : decode cX8_turns 79 = .ok (.getfield 44, 3) := by decide +kernel
theorem dX8_turns_82 : decode cX8_turns 82 = .ok (.iload_n 2, 1) := by decide +kernel
theorem dX8_turns_83 : decode cX8_turns 83 = .ok (.aload_n 0, 1) := by decide +kernel
theorem dX8_turns_84 : decode cX8_turns 84 = .ok (.iload_n 1, 1) := by decide +kernel
theorem dX8_turns_85 : decode cX8_turns 85 = .ok (.iload_n 2, 1) := by decide +kernel
theorem dX8_turns_86 : decode cX8_turns 86 = .ok (.invokevirtual 201, 3) := by decide +kernel
theorem dX8_turns_89 : decode cX8_turns 89 = .ok (.bastore, 1) := by decide +kernel
theorem dX8_turns_90 : decode cX8_turns 90 = .ok (.iinc 2 1, 3) := by decide +kernel
theorem dX8_turns_93 : decode cX8_turns 93 = .ok (.goto (-25), 3) := by decide +kernel
theorem dX8_turns_96 : decode cX8_turns 96 = .ok (.aload_n 0, 1) := by decide +kernel
theorem dX8_turns_97 : decode cX8_turns 97 = .ok (.iconst 0, 1) := by decide +kernel
theorem dX8_turns_98 : decode cX8_turns 98 = .ok (.invokevirtual 191, 3) := by decide +kernel
theorem dX8_turns_101 : decode cX8_turns 101 = .ok (.ireturn, 1) := by decide +kernel
set_option maxRecDepth 20000 in
theorem ggX8_turn_X8_isMachine : GoodIn wsX8_turn wsX8_isMachine := goodIn_g _ [(5, 4), (4, 1), (9, 1), (93, 47)] (by exact rfl) (by decide +kernel)
set_option maxRecDepth 20000 in
theorem gX8_turn_X8_isMachine : GoodIn wsX8_turn (wsV RX8 204 RX8 yX8_isMachine wsX8_isMachine) := goodIn_app (goodIn_of _ (by decide +kernel)) ggX8_turn_X8_isMachine
set_option maxRecDepth 20000 in
theorem ggX8_turn_X8_isThere : GoodIn wsX8_turn wsX8_isThere := goodIn_g _ [(13, 1), (6, 1), (93, 47)] (by exact rfl) (by decide +kernel)
set_option maxRecDepth 20000 in
theorem gX8_turn_X8_isThere : GoodIn wsX8_turn (wsV RX8 184 RX8 yX8_isThere wsX8_isThere) := goodIn_app (goodIn_of _ (by decide +kernel)) ggX8_turn_X8_isThere
set_option maxRecDepth 20000 in
theorem ggX8_turn_X8_turns : GoodIn wsX8_turn wsX8_turns := goodIn_g _ [(17, 12), (4, 1), (29, 47), (93, 47)] (by exact rfl) (by decide +kernel)
set_option maxRecDepth 20000 in
theorem gX8_turn_X8_turns : GoodIn wsX8_turn (wsV RX8 220 RX8 yX8_turns wsX8_turns) := goodIn_app (goodIn_of _ (by decide +kernel)) ggX8_turn_X8_turns
set_option maxRecDepth 20000 in
theorem ggX8_turn_X8_isFine : GoodIn wsX8_turn wsX8_isFine := goodIn_g _ [(79, 2), (93, 47)] (by exact rfl) (by decide +kernel)
set_option maxRecDepth 20000 in
theorem gX8_turn_X8_isFine : GoodIn wsX8_turn (wsV RX8 138 RX8 yX8_isFine wsX8_isFine) := goodIn_app (goodIn_of _ (by decide +kernel)) ggX8_turn_X8_isFine
set_option maxRecDepth 20000 in
theorem ggX8_turn_X8_keeps : GoodIn wsX8_turn wsX8_keeps := goodIn_g _ [(84, 1), (48, 1), (6, 1), (24, 1), (47, 1), (41, 1), (56, 1), (18, 2), (51, 1), (21, 1), (52, 1), (20, 1), (53, 1), (22, 1), (54, 1), (23, 1), (55, 1), (85, 3), (4, 1), (88, 52)] (by exact rfl) (by decide +kernel)
set_option maxRecDepth 20000 in
theorem gX8_turn_X8_keeps : GoodIn wsX8_turn (wsV RX8 194 RX8 yX8_keeps wsX8_keeps) := goodIn_app (goodIn_of _ (by decide +kernel)) ggX8_turn_X8_keeps
theorem dX8_turn_0 : decode cX8_turn 0 = .ok (.aload_n 0, 1) := by decide +kernel
theorem dX8_turn_1 : decode cX8_turn 1 = .ok (.iload_n 1, 1) := by decide +kernel
theorem dX8_turn_2 : decode cX8_turn 2 = .ok (.invokevirtual 204, 3) := by decide +kernel
theorem dX8_turn_5 : decode cX8_turn 5 = .ok (.istore_n 2, 1) := by decide +kernel
theorem dX8_turn_6 : decode cX8_turn 6 = .ok (.aload_n 0, 1) := by decide +kernel
theorem dX8_turn_7 : decode cX8_turn 7 = .ok (.iload_n 2, 1) := by decide +kernel
theorem dX8_turn_8 : decode cX8_turn 8 = .ok (.ifCond .ne 7, 3) := by decide +kernel
theorem dX8_turn_11 : decode cX8_turn 11 = .ok (.iconst 1, 1) := by decide +kernel
theorem dX8_turn_12 : decode cX8_turn 12 = .ok (.goto 23, 3) := by decide +kernel
theorem dX8_turn_15 : decode cX8_turn 15 = .ok (.aload_n 0, 1) := by decide +kernel
theorem dX8_turn_16 : decode cX8_turn 16 = .ok (.invokevirtual 184, 3) := by decide +kernel
theorem dX8_turn_19 : decode cX8_turn 19 = .ok (.ifCond .eq 11, 3) := by decide +kernel
theorem dX8_turn_22 : decode cX8_turn 22 = .ok (.aload_n 0, 1) := by decide +kernel
theorem dX8_turn_23 : decode cX8_turn 23 = .ok (.iload_n 1, 1) := by decide +kernel
theorem dX8_turn_24 : decode cX8_turn 24 = .ok (.invokevirtual 220, 3) := by decide +kernel
theorem dX8_turn_27 : decode cX8_turn 27 = .ok (.ifCond .ne 7, 3) := by decide +kernel
theorem dX8_turn_30 : decode cX8_turn 30 = .ok (.iconst 2, 1) := by decide +kernel
theorem dX8_turn_31 : decode cX8_turn 31 = .ok (.goto 4, 3) := by decide +kernel
theorem dX8_turn_34 : decode cX8_turn 34 = .ok (.iconst 0, 1) := by decide +kernel
theorem dX8_turn_35 : decode cX8_turn 35 = .ok (.invokevirtual 138, 3) := by decide +kernel
theorem dX8_turn_38 : decode cX8_turn 38 = .ok (.ifCond .ne 5, 3) := by decide +kernel
theorem dX8_turn_41 : decode cX8_turn 41 = .ok (.iconst 0, 1) := by decide +kernel
theorem dX8_turn_42 : decode cX8_turn 42 = .ok (.ireturn, 1) := by decide +kernel
theorem dX8_turn_43 : decode cX8_turn 43 = .ok (.aload_n 0, 1) := by decide +kernel
theorem dX8_turn_44 : decode cX8_turn 44 = .ok (.invokevirtual 194, 3) := by decide +kernel
theorem dX8_turn_47 : decode cX8_turn 47 = .ok (.ireturn, 1) := by decide +kernel
set_option maxRecDepth 20000 in
theorem ggX8_composes_X8_begins : GoodIn wsX8_composes wsX8_begins := goodIn_g _ [(14, 2), (9, 1), (61, 47)] (by exact rfl) (by decide +kernel)
set_option maxRecDepth 20000 in
theorem gX8_composes_X8_begins : GoodIn wsX8_composes (wsV RX8 188 RX8 yX8_begins wsX8_begins) := goodIn_app (goodIn_of _ (by decide +kernel)) ggX8_composes_X8_begins
set_option maxRecDepth 20000 in
theorem ggX8_composes_X8_adds : GoodIn wsX8_composes wsX8_adds := goodIn_g _ [(19, 2), (15, 1), (21, 1), (61, 47)] (by exact rfl) (by decide +kernel)
set_option maxRecDepth 20000 in
theorem gX8_composes_X8_adds : GoodIn wsX8_composes (wsV RX8 180 RX8 yX8_adds wsX8_adds) := goodIn_app (goodIn_of _ (by decide +kernel)) ggX8_composes_X8_adds
set_option maxRecDepth 20000 in
theorem ggX8_composes_X8_isEndOf : GoodIn wsX8_composes wsX8_isEndOf := goodIn_g _ [(25, 2), (61, 47)] (by exact rfl) (by decide +kernel)
set_option maxRecDepth 20000 in
theorem gX8_composes_X8_isEndOf : GoodIn wsX8_composes (wsV RX8 201 RX8 yX8_isEndOf wsX8_isEndOf) := goodIn_app (goodIn_of _ (by decide +kernel)) ggX8_composes_X8_isEndOf
set_option maxRecDepth 20000 in
theorem ggX8_composes_X8_trims : GoodIn wsX8_composes wsX8_trims := goodIn_g _ [(30, 6), (20, 1), (36, 4), (21, 1), (40, 2), (9, 1), (42, 3), (13, 1), (45, 2), (15, 1), (47, 61)] (by exact rfl) (by decide +kernel)
set_option maxRecDepth 20000 in
theorem gX8_composes_X8_trims : GoodIn wsX8_composes (wsV RX8 191 RX8 yX8_trims wsX8_trims) := goodIn_app (goodIn_of _ (by decide +kernel)) ggX8_composes_X8_trims
theorem dX8_composes_0 : decode cX8_composes 0 = .ok (.aload_n 0, 1) := by decide +kernel
theorem dX8_composes_1 : decode cX8_composes 1 = .ok (.invokevirtual 188, 3) := by decide +kernel
theorem dX8_composes_4 : decode cX8_composes 4 = .ok (.aload_n 0, 1) := by decide +kernel
theorem dX8_composes_5 : decode cX8_composes 5 = .ok (.getfield 13, 3) := by decide +kernel
theorem dX8_composes_8 : decode cX8_composes 8 = .ok (.iload_n 2, 1) := by decide +kernel
theorem dX8_composes_9 : decode cX8_composes 9 = .ok (.iaload, 1) := by decide +kernel
theorem dX8_composes_10 : decode cX8_composes 10 = .ok (.istore_n 3, 1) := by decide +kernel
theorem dX8_composes_11 : decode cX8_composes 11 = .ok (.sipush 160, 3) := by decide +kernel
theorem dX8_composes_14 : decode cX8_composes 14 = .ok (.iload_n 1, 1) := by decide +kernel
theorem dX8_composes_15 : decode cX8_composes 15 = .ok (.imul, 1) := by decide +kernel
theorem dX8_composes_16 : decode cX8_composes 16 = .ok (.istore 4, 2) := by decide +kernel
theorem dX8_composes_18 : decode cX8_composes 18 = .ok (.iload 4, 2) := by decide +kernel
theorem dX8_composes_20 : decode cX8_composes 20 = .ok (.sipush 160, 3) := by decide +kernel
theorem dX8_composes_23 : decode cX8_composes 23 = .ok (.iload_n 1, 1) := by decide +kernel
theorem dX8_composes_24 : decode cX8_composes 24 = .ok (.imul, 1) := by decide +kernel
theorem dX8_composes_25 : decode cX8_composes 25 = .ok (.aload_n 0, 1) := by decide +kernel
theorem dX8_composes_26 : decode cX8_composes 26 = .ok (.getfield 19, 3) := by decide +kernel
theorem dX8_composes_29 : decode cX8_composes 29 = .ok (.iload_n 1, 1) := by decide +kernel
theorem dX8_composes_30 : decode cX8_composes 30 = .ok (.iaload, 1) := by decide +kernel
theorem dX8_composes_31 : decode cX8_composes 31 = .ok (.iadd, 1) := by decide +kernel
theorem dX8_composes_32 : decode cX8_composes 32 = .ok (.if_icmp .ge 228, 3) := by decide +kernel
theorem dX8_composes_35 : decode cX8_composes 35 = .ok (.sipush 160, 3) := by decide +kernel
theorem dX8_composes_38 : decode cX8_composes 38 = .ok (.iload_n 2, 1) := by decide +kernel
theorem dX8_composes_39 : decode cX8_composes 39 = .ok (.imul, 1) := by decide +kernel
theorem dX8_composes_40 : decode cX8_composes 40 = .ok (.istore 5, 2) := by decide +kernel
theorem dX8_composes_42 : decode cX8_composes 42 = .ok (.iload 5, 2) := by decide +kernel
theorem dX8_composes_44 : decode cX8_composes 44 = .ok (.sipush 160, 3) := by decide +kernel
theorem dX8_composes_47 : decode cX8_composes 47 = .ok (.iload_n 2, 1) := by decide +kernel
theorem dX8_composes_48 : decode cX8_composes 48 = .ok (.imul, 1) := by decide +kernel
theorem dX8_composes_49 : decode cX8_composes 49 = .ok (.aload_n 0, 1) := by decide +kernel
theorem dX8_composes_50 : decode cX8_composes 50 = .ok (.getfield 19, 3) := by decide +kernel
theorem dX8_composes_53 : decode cX8_composes 53 = .ok (.iload_n 2, 1) := by decide +kernel
theorem dX8_composes_54 : decode cX8_composes 54 = .ok (.iaload, 1) := by decide +kernel
theorem dX8_composes_55 : decode cX8_composes 55 = .ok (.iadd, 1) := by decide +kernel
theorem dX8_composes_56 : decode cX8_composes 56 = .ok (.if_icmp .ge 127, 3) := by decide +kernel
theorem dX8_composes_59 : decode cX8_composes 59 = .ok (.aload_n 0, 1) := by decide +kernel
theorem dX8_composes_60 : decode cX8_composes 60 = .ok (.getfield 28, 3) := by decide +kernel
theorem dX8_composes_63 : decode cX8_composes 63 = .ok (.iload 4, 2) := by decide +kernel
theorem dX8_composes_65 : decode cX8_composes 65 = .ok (.iaload, 1) := by decide +kernel
theorem dX8_composes_66 : decode cX8_composes 66 = .ok (.bipush 8, 2) := by decide +kernel
theorem dX8_composes_68 : decode cX8_composes 68 = .ok (.if_icmp .eq 109, 3) := by decide +kernel
theorem dX8_composes_71 : decode cX8_composes 71 = .ok (.aload_n 0, 1) := by decide +kernel
theorem dX8_composes_72 : decode cX8_composes 72 = .ok (.getfield 28, 3) := by decide +kernel
theorem dX8_composes_75 : decode cX8_composes 75 = .ok (.iload 4, 2) := by decide +kernel
theorem dX8_composes_77 : decode cX8_composes 77 = .ok (.iaload, 1) := by decide +kernel
theorem dX8_composes_78 : decode cX8_composes 78 = .ok (.aload_n 0, 1) := by decide +kernel
theorem dX8_composes_79 : decode cX8_composes 79 = .ok (.getfield 25, 3) := by decide +kernel
theorem dX8_composes_82 : decode cX8_composes 82 = .ok (.iload 5, 2) := by decide +kernel
theorem dX8_composes_84 : decode cX8_composes 84 = .ok (.iaload, 1) := by decide +kernel
theorem dX8_composes_85 : decode cX8_composes 85 = .ok (.if_icmp .ne 92, 3) := by decide +kernel
theorem dX8_composes_88 : decode cX8_composes 88 = .ok (.aload_n 0, 1) := by decide +kernel
theorem dX8_composes_89 : decode cX8_composes 89 = .ok (.getfield 31, 3) := by decide +kernel
theorem dX8_composes_92 : decode cX8_composes 92 = .ok (.iload 4, 2) := by decide +kernel
theorem dX8_composes_94 : decode cX8_composes 94 = .ok (.iaload, 1) := by decide +kernel
theorem dX8_composes_95 : decode cX8_composes 95 = .ok (.aload_n 0, 1) := by decide +kernel
theorem dX8_composes_96 : decode cX8_composes 96 = .ok (.getfield 31, 3) := by decide +kernel
theorem dX8_composes_99 : decode cX8_composes 99 = .ok (.iload 5, 2) := by decide +kernel
theorem dX8_composes_101 : decode cX8_composes 101 = .ok (.iaload, 1) := by decide +kernel
theorem dX8_composes_102 : decode cX8_composes 102 = .ok (.iadd, 1) := by decide +kernel
theorem dX8_composes_103 : decode cX8_composes 103 = .ok (.ldc 223, 2) := by decide +kernel
theorem dX8_composes_105 : decode cX8_composes 105 = .ok (.if_icmp .le 5, 3) := by decide +kernel
theorem dX8_composes_108 : decode cX8_composes 108 = .ok (.iconst 0, 1) := by decide +kernel
theorem dX8_composes_109 : decode cX8_composes 109 = .ok (.ireturn, 1) := by decide +kernel
theorem dX8_composes_110 : decode cX8_composes 110 = .ok (.aload_n 0, 1) := by decide +kernel
theorem dX8_composes_111 : decode cX8_composes 111 = .ok (.iload_n 3, 1) := by decide +kernel
theorem dX8_composes_112 : decode cX8_composes 112 = .ok (.aload_n 0, 1) := by decide +kernel
theorem dX8_composes_113 : decode cX8_composes 113 = .ok (.getfield 22, 3) := by decide +kernel
theorem dX8_composes_116 : decode cX8_composes 116 = .ok (.iload 4, 2) := by decide +kernel
theorem dX8_composes_118 : decode cX8_composes 118 = .ok (.iaload, 1) := by decide +kernel
theorem dX8_composes_119 : decode cX8_composes 119 = .ok (.imul, 1) := by decide +kernel
theorem dX8_composes_120 : decode cX8_composes 120 = .ok (.aload_n 0, 1) := by decide +kernel
theorem dX8_composes_121 : decode cX8_composes 121 = .ok (.getfield 22, 3) := by decide +kernel
theorem dX8_composes_124 : decode cX8_composes 124 = .ok (.iload 5, 2) := by decide +kernel
theorem dX8_composes_126 : decode cX8_composes 126 = .ok (.iaload, 1) := by decide +kernel
theorem dX8_composes_127 : decode cX8_composes 127 = .ok (.iadd, 1) := by decide +kernel
theorem dX8_composes_128 : decode cX8_composes 128 = .ok (.aload_n 0, 1) := by decide +kernel
theorem dX8_composes_129 : decode cX8_composes 129 = .ok (.getfield 25, 3) := by decide +kernel
theorem dX8_composes_132 : decode cX8_composes 132 = .ok (.iload 4, 2) := by decide +kernel
theorem dX8_composes_134 : decode cX8_composes 134 = .ok (.iaload, 1) := by decide +kernel
theorem dX8_composes_135 : decode cX8_composes 135 = .ok (.aload_n 0, 1) := by decide +kernel
theorem dX8_composes_136 : decode cX8_composes 136 = .ok (.getfield 28, 3) := by decide +kernel
theorem dX8_composes_139 : decode cX8_composes 139 = .ok (.iload 5, 2) := by decide +kernel
theorem dX8_composes_141 : decode cX8_composes 141 = .ok (.iaload, 1) := by decide +kernel
theorem dX8_composes_142 : decode cX8_composes 142 = .ok (.aload_n 0, 1) := by decide +kernel
theorem dX8_composes_143 : decode cX8_composes 143 = .ok (.getfield 31, 3) := by decide +kernel
theorem dX8_composes_146 : decode cX8_composes 146 = .ok (.iload 4, 2) := by decide +kernel
theorem dX8_composes_148 : decode cX8_composes 148 = .ok (.iaload, 1) := by decide +kernel
theorem dX8_composes_149 : decode cX8_composes 149 = .ok (.aload_n 0, 1) := by decide +kernel
theorem dX8_composes_150 : decode cX8_composes 150 = .ok (.getfield 31, 3) := by decide +kernel
theorem dX8_composes_153 : decode cX8_composes 153 = .ok (.iload 5, 2) := by decide +kernel
theorem dX8_composes_155 : decode cX8_composes 155 = .ok (.iaload, 1) := by decide +kernel
theorem dX8_composes_156 : decode cX8_composes 156 = .ok (.iadd, 1) := by decide +kernel
theorem dX8_composes_157 : decode cX8_composes 157 = .ok (.iload_n 3, 1) := by decide +kernel
theorem dX8_composes_158 : decode cX8_composes 158 = .ok (.aload_n 0, 1) := by decide +kernel
theorem dX8_composes_159 : decode cX8_composes 159 = .ok (.getfield 34, 3) := by decide +kernel
theorem dX8_composes_162 : decode cX8_composes 162 = .ok (.iload 4, 2) := by decide +kernel
theorem dX8_composes_164 : decode cX8_composes 164 = .ok (.iaload, 1) := by decide +kernel
theorem dX8_composes_165 : decode cX8_composes 165 = .ok (.imul, 1) := by decide +kernel
theorem dX8_composes_166 : decode cX8_composes 166 = .ok (.aload_n 0, 1) := by decide +kernel
theorem dX8_composes_167 : decode cX8_composes 167 = .ok (.getfield 34, 3) := by decide +kernel
theorem dX8_composes_170 : decode cX8_composes 170 = .ok (.iload 5, 2) := by decide +kernel
theorem dX8_composes_172 : decode cX8_composes 172 = .ok (.iaload, 1) := by decide +kernel
theorem dX8_composes_173 : decode cX8_composes 173 = .ok (.iadd, 1) := by decide +kernel
theorem dX8_composes_174 : decode cX8_composes 174 = .ok (.invokevirtual 180, 3) := by decide +kernel
theorem dX8_composes_177 : decode cX8_composes 177 = .ok (.iinc 5 1, 3) := by decide +kernel
theorem dX8_composes_180 : decode cX8_composes 180 = .ok (.goto (-138), 3) := by decide +kernel
theorem dX8_composes_183 : decode cX8_composes 183 = .ok (.iconst 0, 1) := by decide +kernel
theorem dX8_composes_184 : decode cX8_composes 184 = .ok (.istore 5, 2) := by decide +kernel
theorem dX8_composes_186 : decode cX8_composes 186 = .ok (.iload 5, 2) := by decide +kernel
theorem dX8_composes_188 : decode cX8_composes 188 = .ok (.iload_n 3, 1) := by decide +kernel
theorem dX8_composes_189 : decode cX8_composes 189 = .ok (.if_icmp .ge 65, 3) := by decide +kernel
theorem dX8_composes_192 : decode cX8_composes 192 = .ok (.aload_n 0, 1) := by decide +kernel
theorem dX8_composes_193 : decode cX8_composes 193 = .ok (.getfield 28, 3) := by decide +kernel
theorem dX8_composes_196 : decode cX8_composes 196 = .ok (.iload 4, 2) := by decide +kernel
theorem dX8_composes_198 : decode cX8_composes 198 = .ok (.iaload, 1) := by decide +kernel
theorem dX8_composes_199 : decode cX8_composes 199 = .ok (.bipush 8, 2) := by decide +kernel
theorem dX8_composes_201 : decode cX8_composes 201 = .ok (.if_icmp .ne 53, 3) := by decide +kernel
theorem dX8_composes_204 : decode cX8_composes 204 = .ok (.aload_n 0, 1) := by decide +kernel
theorem dX8_composes_205 : decode cX8_composes 205 = .ok (.iload_n 3, 1) := by decide +kernel
theorem dX8_composes_206 : decode cX8_composes 206 = .ok (.aload_n 0, 1) := by decide +kernel
theorem dX8_composes_207 : decode cX8_composes 207 = .ok (.getfield 22, 3) := by decide +kernel
theorem dX8_composes_210 : decode cX8_composes 210 = .ok (.iload 4, 2) := by decide +kernel
theorem dX8_composes_212 : decode cX8_composes 212 = .ok (.iaload, 1) := by decide +kernel
theorem dX8_composes_213 : decode cX8_composes 213 = .ok (.imul, 1) := by decide +kernel
theorem dX8_composes_214 : decode cX8_composes 214 = .ok (.iload 5, 2) := by decide +kernel
theorem dX8_composes_216 : decode cX8_composes 216 = .ok (.iadd, 1) := by decide +kernel
theorem dX8_composes_217 : decode cX8_composes 217 = .ok (.aload_n 0, 1) := by decide +kernel
theorem dX8_composes_218 : decode cX8_composes 218 = .ok (.getfield 25, 3) := by decide +kernel
theorem dX8_composes_221 : decode cX8_composes 221 = .ok (.iload 4, 2) := by decide +kernel
theorem dX8_composes_223 : decode cX8_composes 223 = .ok (.iaload, 1) := by decide +kernel
theorem dX8_composes_224 : decode cX8_composes 224 = .ok (.bipush 8, 2) := by decide +kernel
theorem dX8_composes_226 : decode cX8_composes 226 = .ok (.aload_n 0, 1) := by decide +kernel
theorem dX8_composes_227 : decode cX8_composes 227 = .ok (.getfield 31, 3) := by decide +kernel
theorem dX8_composes_230 : decode cX8_composes 230 = .ok (.iload 4, 2) := by decide +kernel
theorem dX8_composes_232 : decode cX8_composes 232 = .ok (.iaload, 1) := by decide +kernel
theorem dX8_composes_233 : decode cX8_composes 233 = .ok (.iload_n 3, 1) := by decide +kernel
theorem dX8_composes_234 : decode cX8_composes 234 = .ok (.aload_n 0, 1) := by decide +kernel
theorem dX8_composes_235 : decode cX8_composes 235 = .ok (.getfield 34, 3) := by decide +kernel
theorem dX8_composes_238 : decode cX8_composes 238 = .ok (.iload 4, 2) := by decide +kernel
theorem dX8_composes_240 : decode cX8_composes 240 = .ok (.iaload, 1) := by decide +kernel
theorem dX8_composes_241 : decode cX8_composes 241 = .ok (.imul, 1) := by decide +kernel
theorem dX8_composes_242 : decode cX8_composes 242 = .ok (.iload 5, 2) := by decide +kernel
theorem dX8_composes_244 : decode cX8_composes 244 = .ok (.iadd, 1) := by decide +kernel
theorem dX8_composes_245 : decode cX8_composes 245 = .ok (.invokevirtual 180, 3) := by decide +kernel
theorem dX8_composes_248 : decode cX8_composes 248 = .ok (.iinc 5 1, 3) := by decide +kernel
theorem dX8_composes_251 : decode cX8_composes 251 = .ok (.goto (-65), 3) := by decide +kernel
theorem dX8_composes_254 : decode cX8_composes 254 = .ok (.iinc 4 1, 3) := by decide +kernel
theorem dX8_composes_257 : decode cX8_composes 257 = .ok (.goto (-239), 3) := by decide +kernel
theorem dX8_composes_260 : decode cX8_composes 260 = .ok (.sipush 160, 3) := by decide +kernel
theorem dX8_composes_263 : decode cX8_composes 263 = .ok (.iload_n 2, 1) := by decide +kernel
theorem dX8_composes_264 : decode cX8_composes 264 = .ok (.imul, 1) := by decide +kernel
theorem dX8_composes_265 : decode cX8_composes 265 = .ok (.istore 4, 2) := by decide +kernel
theorem dX8_composes_267 : decode cX8_composes 267 = .ok (.iload 4, 2) := by decide +kernel
theorem dX8_composes_269 : decode cX8_composes 269 = .ok (.sipush 160, 3) := by decide +kernel
theorem dX8_composes_272 : decode cX8_composes 272 = .ok (.iload_n 2, 1) := by decide +kernel
theorem dX8_composes_273 : decode cX8_composes 273 = .ok (.imul, 1) := by decide +kernel
theorem dX8_composes_274 : decode cX8_composes 274 = .ok (.aload_n 0, 1) := by decide +kernel
theorem dX8_composes_275 : decode cX8_composes 275 = .ok (.getfield 19, 3) := by decide +kernel
theorem dX8_composes_278 : decode cX8_composes 278 = .ok (.iload_n 2, 1) := by decide +kernel
theorem dX8_composes_279 : decode cX8_composes 279 = .ok (.iaload, 1) := by decide +kernel
theorem dX8_composes_280 : decode cX8_composes 280 = .ok (.iadd, 1) := by decide +kernel
theorem dX8_composes_281 : decode cX8_composes 281 = .ok (.if_icmp .ge 85, 3) := by decide +kernel
theorem dX8_composes_284 : decode cX8_composes 284 = .ok (.iconst 0, 1) := by decide +kernel
theorem dX8_composes_285 : decode cX8_composes 285 = .ok (.istore 5, 2) := by decide +kernel
theorem dX8_composes_287 : decode cX8_composes 287 = .ok (.iload 5, 2) := by decide +kernel
theorem dX8_composes_289 : decode cX8_composes 289 = .ok (.aload_n 0, 1) := by decide +kernel
theorem dX8_composes_290 : decode cX8_composes 290 = .ok (.getfield 13, 3) := by decide +kernel
theorem dX8_composes_293 : decode cX8_composes 293 = .ok (.iload_n 1, 1) := by decide +kernel
theorem dX8_composes_294 : decode cX8_composes 294 = .ok (.iaload, 1) := by decide +kernel
theorem dX8_composes_295 : decode cX8_composes 295 = .ok (.if_icmp .ge 65, 3) := by decide +kernel
theorem dX8_composes_298 : decode cX8_composes 298 = .ok (.aload_n 0, 1) := by decide +kernel
theorem dX8_composes_299 : decode cX8_composes 299 = .ok (.getfield 25, 3) := by decide +kernel
theorem dX8_composes_302 : decode cX8_composes 302 = .ok (.iload 4, 2) := by decide +kernel
theorem dX8_composes_304 : decode cX8_composes 304 = .ok (.iaload, 1) := by decide +kernel
theorem dX8_composes_305 : decode cX8_composes 305 = .ok (.bipush 8, 2) := by decide +kernel
theorem dX8_composes_307 : decode cX8_composes 307 = .ok (.if_icmp .ne 53, 3) := by decide +kernel
theorem dX8_composes_310 : decode cX8_composes 310 = .ok (.aload_n 0, 1) := by decide +kernel
theorem dX8_composes_311 : decode cX8_composes 311 = .ok (.iload_n 3, 1) := by decide +kernel
theorem dX8_composes_312 : decode cX8_composes 312 = .ok (.iload 5, 2) := by decide +kernel
theorem dX8_composes_314 : decode cX8_composes 314 = .ok (.imul, 1) := by decide +kernel
theorem dX8_composes_315 : decode cX8_composes 315 = .ok (.aload_n 0, 1) := by decide +kernel
theorem dX8_composes_316 : decode cX8_composes 316 = .ok (.getfield 22, 3) := by decide +kernel
theorem dX8_composes_319 : decode cX8_composes 319 = .ok (.iload 4, 2) := by decide +kernel
theorem dX8_composes_321 : decode cX8_composes 321 = .ok (.iaload, 1) := by decide +kernel
theorem dX8_composes_322 : decode cX8_composes 322 = .ok (.iadd, 1) := by decide +kernel
theorem dX8_composes_323 : decode cX8_composes 323 = .ok (.bipush 8, 2) := by decide +kernel
theorem dX8_composes_325 : decode cX8_composes 325 = .ok (.aload_n 0, 1) := by decide +kernel
theorem dX8_composes_326 : decode cX8_composes 326 = .ok (.getfield 28, 3) := by decide +kernel
theorem dX8_composes_329 : decode cX8_composes 329 = .ok (.iload 4, 2) := by decide +kernel
theorem dX8_composes_331 : decode cX8_composes 331 = .ok (.iaload, 1) := by decide +kernel
theorem dX8_composes_332 : decode cX8_composes 332 = .ok (.aload_n 0, 1) := by decide +kernel
theorem dX8_composes_333 : decode cX8_composes 333 = .ok (.getfield 31, 3) := by decide +kernel
theorem dX8_composes_336 : decode cX8_composes 336 = .ok (.iload 4, 2) := by decide +kernel
theorem dX8_composes_338 : decode cX8_composes 338 = .ok (.iaload, 1) := by decide +kernel
theorem dX8_composes_339 : decode cX8_composes 339 = .ok (.iload_n 3, 1) := by decide +kernel
theorem dX8_composes_340 : decode cX8_composes 340 = .ok (.iload 5, 2) := by decide +kernel
theorem dX8_composes_342 : decode cX8_composes 342 = .ok (.imul, 1) := by decide +kernel
theorem dX8_composes_343 : decode cX8_composes 343 = .ok (.aload_n 0, 1) := by decide +kernel
theorem dX8_composes_344 : decode cX8_composes 344 = .ok (.getfield 34, 3) := by decide +kernel
theorem dX8_composes_347 : decode cX8_composes 347 = .ok (.iload 4, 2) := by decide +kernel
theorem dX8_composes_349 : decode cX8_composes 349 = .ok (.iaload, 1) := by decide +kernel
theorem dX8_composes_350 : decode cX8_composes 350 = .ok (.iadd, 1) := by decide +kernel
theorem dX8_composes_351 : decode cX8_composes 351 = .ok (.invokevirtual 180, 3) := by decide +kernel
theorem dX8_composes_354 : decode cX8_composes 354 = .ok (.iinc 5 1, 3) := by decide +kernel
theorem dX8_composes_357 : decode cX8_composes 357 = .ok (.goto (-70), 3) := by decide +kernel
theorem dX8_composes_360 : decode cX8_composes 360 = .ok (.iinc 4 1, 3) := by decide +kernel
theorem dX8_composes_363 : decode cX8_composes 363 = .ok (.goto (-96), 3) := by decide +kernel
theorem dX8_composes_366 : decode cX8_composes 366 = .ok (.iconst 0, 1) := by decide +kernel
theorem dX8_composes_367 : decode cX8_composes 367 = .ok (.istore 4, 2) := by decide +kernel
theorem dX8_composes_369 : decode cX8_composes 369 = .ok (.iload 4, 2) := by decide +kernel
theorem dX8_composes_371 : decode cX8_composes 371 = .ok (.iload_n 3, 1) := by decide +kernel
theorem dX8_composes_372 : decode cX8_composes 372 = .ok (.aload_n 0, 1) := by decide +kernel
theorem dX8_composes_373 : decode cX8_composes 373 = .ok (.getfield 13, 3) := by decide +kernel
theorem dX8_composes_376 : decode cX8_composes 376 = .ok (.iload_n 1, 1) := by decide +kernel
theorem dX8_composes_377 : decode cX8_composes 377 = .ok (.iaload, 1) := by decide +kernel
theorem dX8_composes_378 : decode cX8_composes 378 = .ok (.imul, 1) := by decide +kernel
theorem dX8_composes_379 : decode cX8_composes 379 = .ok (.if_icmp .ge 45, 3) := by decide +kernel
theorem dX8_composes_382 : decode cX8_composes 382 = .ok (.aload_n 0, 1) := by decide +kernel
theorem dX8_composes_383 : decode cX8_composes 383 = .ok (.getfield 44, 3) := by decide +kernel
theorem dX8_composes_386 : decode cX8_composes 386 = .ok (.iload 4, 2) := by decide +kernel
theorem dX8_composes_388 : decode cX8_composes 388 = .ok (.aload_n 0, 1) := by decide +kernel
theorem dX8_composes_389 : decode cX8_composes 389 = .ok (.iload_n 1, 1) := by decide +kernel
theorem dX8_composes_390 : decode cX8_composes 390 = .ok (.iload 4, 2) := by decide +kernel
theorem dX8_composes_392 : decode cX8_composes 392 = .ok (.iload_n 3, 1) := by decide +kernel
theorem dX8_composes_393 : decode cX8_composes 393 = .ok (.idiv, 1) := by decide +kernel
theorem dX8_composes_394 : decode cX8_composes 394 = .ok (.invokevirtual 201, 3) := by decide +kernel
theorem dX8_composes_397 : decode cX8_composes 397 = .ok (.ifCond .eq 19, 3) := by decide +kernel
theorem dX8_composes_400 : decode cX8_composes 400 = .ok (.aload_n 0, 1) := by decide +kernel
theorem dX8_composes_401 : decode cX8_composes 401 = .ok (.iload_n 2, 1) := by decide +kernel
theorem dX8_composes_402 : decode cX8_composes 402 = .ok (.iload 4, 2) := by decide +kernel
theorem dX8_composes_404 : decode cX8_composes 404 = .ok (.iload_n 3, 1) := by decide +kernel
theorem dX8_composes_405 : decode cX8_composes 405 = .ok (.irem, 1) := by decide +kernel
theorem dX8_composes_406 : decode cX8_composes 406 = .ok (.invokevirtual 201, 3) := by decide +kernel
theorem dX8_composes_409 : decode cX8_composes 409 = .ok (.ifCond .eq 7, 3) := by decide +kernel
theorem dX8_composes_412 : decode cX8_composes 412 = .ok (.iconst 1, 1) := by decide +kernel
theorem dX8_composes_413 : decode cX8_composes 413 = .ok (.goto 4, 3) := by decide +kernel
theorem dX8_composes_416 : decode cX8_composes 416 = .ok (.iconst 0, 1) := by decide +kernel
theorem dX8_composes_417 : decode cX8_composes 417 = .ok (.bastore, 1) := by decide +kernel
theorem dX8_composes_418 : decode cX8_composes 418 = .ok (.iinc 4 1, 3) := by decide +kernel
theorem dX8_composes_421 : decode cX8_composes 421 = .ok (.goto (-52), 3) := by decide +kernel
theorem dX8_composes_424 : decode cX8_composes 424 = .ok (.aload_n 0, 1) := by decide +kernel
theorem dX8_composes_425 : decode cX8_composes 425 = .ok (.iconst 0, 1) := by decide +kernel
theorem dX8_composes_426 : decode cX8_composes 426 = .ok (.invokevirtual 191, 3) := by decide +kernel
theorem dX8_composes_429 : decode cX8_composes 429 = .ok (.ireturn, 1) := by decide +kernel
set_option maxRecDepth 20000 in
theorem ggX8_compose_X8_isMachine : GoodIn wsX8_compose wsX8_isMachine := goodIn_g _ [(5, 4), (4, 1), (9, 1), (94, 47)] (by exact rfl) (by decide +kernel)
set_option maxRecDepth 20000 in
theorem gX8_compose_X8_isMachine : GoodIn wsX8_compose (wsV RX8 204 RX8 yX8_isMachine wsX8_isMachine) := goodIn_app (goodIn_of _ (by decide +kernel)) ggX8_compose_X8_isMachine
set_option maxRecDepth 20000 in
theorem ggX8_compose_X8_isThere : GoodIn wsX8_compose wsX8_isThere := goodIn_g _ [(13, 1), (6, 1), (94, 47)] (by exact rfl) (by decide +kernel)
set_option maxRecDepth 20000 in
theorem gX8_compose_X8_isThere : GoodIn wsX8_compose (wsV RX8 184 RX8 yX8_isThere wsX8_isThere) := goodIn_app (goodIn_of _ (by decide +kernel)) ggX8_compose_X8_isThere
set_option maxRecDepth 20000 in
theorem ggX8_compose_X8_composes : GoodIn wsX8_compose wsX8_composes := goodIn_g _ [(17, 13), (4, 1), (30, 47), (94, 47)] (by exact rfl) (by decide +kernel)
set_option maxRecDepth 20000 in
theorem gX8_compose_X8_composes : GoodIn wsX8_compose (wsV RX8 224 RX8 yX8_composes wsX8_composes) := goodIn_app (goodIn_of _ (by decide +kernel)) ggX8_compose_X8_composes
set_option maxRecDepth 20000 in
theorem ggX8_compose_X8_isFine : GoodIn wsX8_compose wsX8_isFine := goodIn_g _ [(80, 2), (94, 47)] (by exact rfl) (by decide +kernel)
set_option maxRecDepth 20000 in
theorem gX8_compose_X8_isFine : GoodIn wsX8_compose (wsV RX8 138 RX8 yX8_isFine wsX8_isFine) := goodIn_app (goodIn_of _ (by decide +kernel)) ggX8_compose_X8_isFine
set_option maxRecDepth 20000 in
theorem ggX8_compose_X8_keeps : GoodIn wsX8_compose wsX8_keeps := goodIn_g _ [(85, 1), (49, 1), (6, 1), (18, 1), (48, 1), (42, 1), (57, 1), (19, 1), (24, 1), (52, 1), (21, 1), (53, 1), (20, 1), (54, 1), (22, 1), (55, 1), (25, 1), (56, 1), (86, 3), (4, 1), (89, 52)] (by exact rfl) (by decide +kernel)
set_option maxRecDepth 20000 in
theorem gX8_compose_X8_keeps : GoodIn wsX8_compose (wsV RX8 194 RX8 yX8_keeps wsX8_keeps) := goodIn_app (goodIn_of _ (by decide +kernel)) ggX8_compose_X8_keeps
theorem dX8_compose_0 : decode cX8_compose 0 = .ok (.aload_n 0, 1) := by decide +kernel
theorem dX8_compose_1 : decode cX8_compose 1 = .ok (.iload_n 1, 1) := by decide +kernel
theorem dX8_compose_2 : decode cX8_compose 2 = .ok (.invokevirtual 204, 3) := by decide +kernel
theorem dX8_compose_5 : decode cX8_compose 5 = .ok (.ifCond .eq 15, 3) := by decide +kernel
theorem dX8_compose_8 : decode cX8_compose 8 = .ok (.aload_n 0, 1) := by decide +kernel
theorem dX8_compose_9 : decode cX8_compose 9 = .ok (.iload_n 2, 1) := by decide +kernel
theorem dX8_compose_10 : decode cX8_compose 10 = .ok (.invokevirtual 204, 3) := by decide +kernel
theorem dX8_compose_13 : decode cX8_compose 13 = .ok (.ifCond .eq 7, 3) := by decide +kernel
theorem dX8_compose_16 : decode cX8_compose 16 = .ok (.iconst 1, 1) := by decide +kernel
theorem dX8_compose_17 : decode cX8_compose 17 = .ok (.goto 4, 3) := by decide +kernel
theorem dX8_compose_20 : decode cX8_compose 20 = .ok (.iconst 0, 1) := by decide +kernel
theorem dX8_compose_21 : decode cX8_compose 21 = .ok (.istore_n 3, 1) := by decide +kernel
theorem dX8_compose_22 : decode cX8_compose 22 = .ok (.aload_n 0, 1) := by decide +kernel
theorem dX8_compose_23 : decode cX8_compose 23 = .ok (.iload_n 3, 1) := by decide +kernel
theorem dX8_compose_24 : decode cX8_compose 24 = .ok (.ifCond .ne 7, 3) := by decide +kernel
theorem dX8_compose_27 : decode cX8_compose 27 = .ok (.iconst 1, 1) := by decide +kernel
theorem dX8_compose_28 : decode cX8_compose 28 = .ok (.goto 24, 3) := by decide +kernel
theorem dX8_compose_31 : decode cX8_compose 31 = .ok (.aload_n 0, 1) := by decide +kernel
theorem dX8_compose_32 : decode cX8_compose 32 = .ok (.invokevirtual 184, 3) := by decide +kernel
theorem dX8_compose_35 : decode cX8_compose 35 = .ok (.ifCond .eq 12, 3) := by decide +kernel
theorem dX8_compose_38 : decode cX8_compose 38 = .ok (.aload_n 0, 1) := by decide +kernel
theorem dX8_compose_39 : decode cX8_compose 39 = .ok (.iload_n 1, 1) := by decide +kernel
theorem dX8_compose_40 : decode cX8_compose 40 = .ok (.iload_n 2, 1) := by decide +kernel
theorem dX8_compose_41 : decode cX8_compose 41 = .ok (.invokevirtual 224, 3) := by decide +kernel
theorem dX8_compose_44 : decode cX8_compose 44 = .ok (.ifCond .ne 7, 3) := by decide +kernel
theorem dX8_compose_47 : decode cX8_compose 47 = .ok (.iconst 2, 1) := by decide +kernel
theorem dX8_compose_48 : decode cX8_compose 48 = .ok (.goto 4, 3) := by decide +kernel
theorem dX8_compose_51 : decode cX8_compose 51 = .ok (.iconst 0, 1) := by decide +kernel
theorem dX8_compose_52 : decode cX8_compose 52 = .ok (.invokevirtual 138, 3) := by decide +kernel
theorem dX8_compose_55 : decode cX8_compose 55 = .ok (.ifCond .ne 5, 3) := by decide +kernel
theorem dX8_compose_58 : decode cX8_compose 58 = .ok (.iconst 0, 1) := by decide +kernel
theorem dX8_compose_59 : decode cX8_compose 59 = .ok (.ireturn, 1) := by decide +kernel
theorem dX8_compose_60 : decode cX8_compose 60 = .ok (.aload_n 0, 1) := by decide +kernel
theorem dX8_compose_61 : decode cX8_compose 61 = .ok (.invokevirtual 194, 3) := by decide +kernel
theorem dX8_compose_64 : decode cX8_compose 64 = .ok (.ireturn, 1) := by decide +kernel
set_option maxRecDepth 20000 in
theorem ggX8_sides_X8_begins : GoodIn wsX8_sides wsX8_begins := goodIn_g _ [(12, 2), (7, 1), (59, 47)] (by exact rfl) (by decide +kernel)
set_option maxRecDepth 20000 in
theorem gX8_sides_X8_begins : GoodIn wsX8_sides (wsV RX8 188 RX8 yX8_begins wsX8_begins) := goodIn_app (goodIn_of _ (by decide +kernel)) ggX8_sides_X8_begins
set_option maxRecDepth 20000 in
theorem ggX8_sides_X8_adds : GoodIn wsX8_sides wsX8_adds := goodIn_g _ [(17, 2), (13, 1), (19, 1), (59, 47)] (by exact rfl) (by decide +kernel)
set_option maxRecDepth 20000 in
theorem gX8_sides_X8_adds : GoodIn wsX8_sides (wsV RX8 180 RX8 yX8_adds wsX8_adds) := goodIn_app (goodIn_of _ (by decide +kernel)) ggX8_sides_X8_adds
set_option maxRecDepth 20000 in
theorem ggX8_sides_X8_isEndOf : GoodIn wsX8_sides wsX8_isEndOf := goodIn_g _ [(23, 2), (59, 47)] (by exact rfl) (by decide +kernel)
set_option maxRecDepth 20000 in
theorem gX8_sides_X8_isEndOf : GoodIn wsX8_sides (wsV RX8 201 RX8 yX8_isEndOf wsX8_isEndOf) := goodIn_app (goodIn_of _ (by decide +kernel)) ggX8_sides_X8_isEndOf
set_option maxRecDepth 20000 in
theorem ggX8_sides_X8_trims : GoodIn wsX8_sides wsX8_trims := goodIn_g _ [(28, 6), (18, 1), (34, 4), (19, 1), (38, 2), (7, 1), (40, 3), (11, 1), (43, 2), (13, 1), (45, 61)] (by exact rfl) (by decide +kernel)
set_option maxRecDepth 20000 in
theorem gX8_sides_X8_trims : GoodIn wsX8_sides (wsV RX8 191 RX8 yX8_trims wsX8_trims) := goodIn_app (goodIn_of _ (by decide +kernel)) ggX8_sides_X8_trims
theorem dX8_sides_0 : decode cX8_sides 0 = .ok (.aload_n 0, 1) := by decide +kernel
theorem dX8_sides_1 : decode cX8_sides 1 = .ok (.invokevirtual 188, 3) := by decide +kernel
theorem dX8_sides_4 : decode cX8_sides 4 = .ok (.sipush 160, 3) := by decide +kernel
theorem dX8_sides_7 : decode cX8_sides 7 = .ok (.iload_n 1, 1) := by decide +kernel
theorem dX8_sides_8 : decode cX8_sides 8 = .ok (.imul, 1) := by decide +kernel
theorem dX8_sides_9 : decode cX8_sides 9 = .ok (.istore_n 3, 1) := by decide +kernel
theorem dX8_sides_10 : decode cX8_sides 10 = .ok (.iload_n 3, 1) := by decide +kernel
theorem dX8_sides_11 : decode cX8_sides 11 = .ok (.sipush 160, 3) := by decide +kernel
theorem dX8_sides_14 : decode cX8_sides 14 = .ok (.iload_n 1, 1) := by decide +kernel
theorem dX8_sides_15 : decode cX8_sides 15 = .ok (.imul, 1) := by decide +kernel
theorem dX8_sides_16 : decode cX8_sides 16 = .ok (.aload_n 0, 1) := by decide +kernel
theorem dX8_sides_17 : decode cX8_sides 17 = .ok (.getfield 19, 3) := by decide +kernel
theorem dX8_sides_20 : decode cX8_sides 20 = .ok (.iload_n 1, 1) := by decide +kernel
theorem dX8_sides_21 : decode cX8_sides 21 = .ok (.iaload, 1) := by decide +kernel
theorem dX8_sides_22 : decode cX8_sides 22 = .ok (.iadd, 1) := by decide +kernel
theorem dX8_sides_23 : decode cX8_sides 23 = .ok (.if_icmp .ge 51, 3) := by decide +kernel
theorem dX8_sides_26 : decode cX8_sides 26 = .ok (.iload_n 2, 1) := by decide +kernel
theorem dX8_sides_27 : decode cX8_sides 27 = .ok (.ifCond .eq 12, 3) := by decide +kernel
theorem dX8_sides_30 : decode cX8_sides 30 = .ok (.aload_n 0, 1) := by decide +kernel
theorem dX8_sides_31 : decode cX8_sides 31 = .ok (.getfield 25, 3) := by decide +kernel
theorem dX8_sides_34 : decode cX8_sides 34 = .ok (.iload_n 3, 1) := by decide +kernel
theorem dX8_sides_35 : decode cX8_sides 35 = .ok (.iaload, 1) := by decide +kernel
theorem dX8_sides_36 : decode cX8_sides 36 = .ok (.goto 9, 3) := by decide +kernel
theorem dX8_sides_39 : decode cX8_sides 39 = .ok (.aload_n 0, 1) := by decide +kernel
theorem dX8_sides_40 : decode cX8_sides 40 = .ok (.getfield 28, 3) := by decide +kernel
theorem dX8_sides_43 : decode cX8_sides 43 = .ok (.iload_n 3, 1) := by decide +kernel
theorem dX8_sides_44 : decode cX8_sides 44 = .ok (.iaload, 1) := by decide +kernel
theorem dX8_sides_45 : decode cX8_sides 45 = .ok (.istore 4, 2) := by decide +kernel
theorem dX8_sides_47 : decode cX8_sides 47 = .ok (.aload_n 0, 1) := by decide +kernel
theorem dX8_sides_48 : decode cX8_sides 48 = .ok (.aload_n 0, 1) := by decide +kernel
theorem dX8_sides_49 : decode cX8_sides 49 = .ok (.getfield 22, 3) := by decide +kernel
theorem dX8_sides_52 : decode cX8_sides 52 = .ok (.iload_n 3, 1) := by decide +kernel
theorem dX8_sides_53 : decode cX8_sides 53 = .ok (.iaload, 1) := by decide +kernel
theorem dX8_sides_54 : decode cX8_sides 54 = .ok (.iload 4, 2) := by decide +kernel
theorem dX8_sides_56 : decode cX8_sides 56 = .ok (.iload 4, 2) := by decide +kernel
theorem dX8_sides_58 : decode cX8_sides 58 = .ok (.iconst 0, 1) := by decide +kernel
theorem dX8_sides_59 : decode cX8_sides 59 = .ok (.aload_n 0, 1) := by decide +kernel
theorem dX8_sides_60 : decode cX8_sides 60 = .ok (.getfield 34, 3) := by decide +kernel
theorem dX8_sides_63 : decode cX8_sides 63 = .ok (.iload_n 3, 1) := by decide +kernel
theorem dX8_sides_64 : decode cX8_sides 64 = .ok (.iaload, 1) := by decide +kernel
theorem dX8_sides_65 : decode cX8_sides 65 = .ok (.invokevirtual 180, 3) := by decide +kernel
theorem dX8_sides_68 : decode cX8_sides 68 = .ok (.iinc 3 1, 3) := by decide +kernel
theorem dX8_sides_71 : decode cX8_sides 71 = .ok (.goto (-61), 3) := by decide +kernel
theorem dX8_sides_74 : decode cX8_sides 74 = .ok (.iconst 0, 1) := by decide +kernel
theorem dX8_sides_75 : decode cX8_sides 75 = .ok (.istore_n 3, 1) := by decide +kernel
theorem dX8_sides_76 : decode cX8_sides 76 = .ok (.iload_n 3, 1) := by decide +kernel
theorem dX8_sides_77 : decode cX8_sides 77 = .ok (.aload_n 0, 1) := by decide +kernel
theorem dX8_sides_78 : decode cX8_sides 78 = .ok (.getfield 13, 3) := by decide +kernel
theorem dX8_sides_81 : decode cX8_sides 81 = .ok (.iload_n 1, 1) := by decide +kernel
theorem dX8_sides_82 : decode cX8_sides 82 = .ok (.iaload, 1) := by decide +kernel
theorem dX8_sides_83 : decode cX8_sides 83 = .ok (.if_icmp .ge 21, 3) := by decide +kernel
theorem dX8_sides_86 : decode cX8_sides 86 = .ok (.aload_n 0, 1) := by decide +kernel
theorem dX8_sides_87 : decode cX8_sides 87 = .ok (.getfield 44, 3) := by decide +kernel
theorem dX8_sides_90 : decode cX8_sides 90 = .ok (.iload_n 3, 1) := by decide +kernel
theorem dX8_sides_91 : decode cX8_sides 91 = .ok (.aload_n 0, 1) := by decide +kernel
theorem dX8_sides_92 : decode cX8_sides 92 = .ok (.iload_n 1, 1) := by decide +kernel
theorem dX8_sides_93 : decode cX8_sides 93 = .ok (.iload_n 3, 1) := by decide +kernel
theorem dX8_sides_94 : decode cX8_sides 94 = .ok (.invokevirtual 201, 3) := by decide +kernel
theorem dX8_sides_97 : decode cX8_sides 97 = .ok (.bastore, 1) := by decide +kernel
theorem dX8_sides_98 : decode cX8_sides 98 = .ok (.iinc 3 1, 3) := by decide +kernel
theorem dX8_sides_101 : decode cX8_sides 101 = .ok (.goto (-25), 3) := by decide +kernel
theorem dX8_sides_104 : decode cX8_sides 104 = .ok (.aload_n 0, 1) := by decide +kernel
theorem dX8_sides_105 : decode cX8_sides 105 = .ok (.iconst 0, 1) := by decide +kernel
theorem dX8_sides_106 : decode cX8_sides 106 = .ok (.invokevirtual 191, 3) := by decide +kernel
theorem dX8_sides_109 : decode cX8_sides 109 = .ok (.ireturn, 1) := by decide +kernel
set_option maxRecDepth 20000 in
theorem ggX8_side_X8_isMachine : GoodIn wsX8_side wsX8_isMachine := goodIn_g _ [(5, 4), (4, 1), (9, 1), (93, 47)] (by exact rfl) (by decide +kernel)
set_option maxRecDepth 20000 in
theorem gX8_side_X8_isMachine : GoodIn wsX8_side (wsV RX8 204 RX8 yX8_isMachine wsX8_isMachine) := goodIn_app (goodIn_of _ (by decide +kernel)) ggX8_side_X8_isMachine
set_option maxRecDepth 20000 in
theorem ggX8_side_X8_isThere : GoodIn wsX8_side wsX8_isThere := goodIn_g _ [(13, 1), (6, 1), (93, 47)] (by exact rfl) (by decide +kernel)
set_option maxRecDepth 20000 in
theorem gX8_side_X8_isThere : GoodIn wsX8_side (wsV RX8 184 RX8 yX8_isThere wsX8_isThere) := goodIn_app (goodIn_of _ (by decide +kernel)) ggX8_side_X8_isThere
set_option maxRecDepth 20000 in
theorem ggX8_side_X8_sides : GoodIn wsX8_side wsX8_sides := goodIn_g _ [(17, 11), (4, 1), (28, 47), (93, 47)] (by exact rfl) (by decide +kernel)
set_option maxRecDepth 20000 in
theorem gX8_side_X8_sides : GoodIn wsX8_side (wsV RX8 227 RX8 yX8_sides wsX8_sides) := goodIn_app (goodIn_of _ (by decide +kernel)) ggX8_side_X8_sides
set_option maxRecDepth 20000 in
theorem ggX8_side_X8_isFine : GoodIn wsX8_side wsX8_isFine := goodIn_g _ [(78, 2), (93, 47)] (by exact rfl) (by decide +kernel)
set_option maxRecDepth 20000 in
theorem gX8_side_X8_isFine : GoodIn wsX8_side (wsV RX8 138 RX8 yX8_isFine wsX8_isFine) := goodIn_app (goodIn_of _ (by decide +kernel)) ggX8_side_X8_isFine
set_option maxRecDepth 20000 in
theorem ggX8_side_X8_keeps : GoodIn wsX8_side wsX8_keeps := goodIn_g _ [(83, 1), (47, 1), (6, 1), (23, 1), (46, 1), (40, 1), (55, 1), (18, 1), (21, 1), (50, 1), (19, 1), (51, 1), (20, 1), (52, 1), (84, 1), (53, 1), (22, 1), (54, 1), (85, 3), (4, 1), (88, 52)] (by exact rfl) (by decide +kernel)
set_option maxRecDepth 20000 in
theorem gX8_side_X8_keeps : GoodIn wsX8_side (wsV RX8 194 RX8 yX8_keeps wsX8_keeps) := goodIn_app (goodIn_of _ (by decide +kernel)) ggX8_side_X8_keeps
theorem dX8_side_0 : decode cX8_side 0 = .ok (.aload_n 0, 1) := by decide +kernel
theorem dX8_side_1 : decode cX8_side 1 = .ok (.iload_n 1, 1) := by decide +kernel
theorem dX8_side_2 : decode cX8_side 2 = .ok (.invokevirtual 204, 3) := by decide +kernel
theorem dX8_side_5 : decode cX8_side 5 = .ok (.istore_n 3, 1) := by decide +kernel
theorem dX8_side_6 : decode cX8_side 6 = .ok (.aload_n 0, 1) := by decide +kernel
theorem dX8_side_7 : decode cX8_side 7 = .ok (.iload_n 3, 1) := by decide +kernel
theorem dX8_side_8 : decode cX8_side 8 = .ok (.ifCond .ne 7, 3) := by decide +kernel
theorem dX8_side_11 : decode cX8_side 11 = .ok (.iconst 1, 1) := by decide +kernel
theorem dX8_side_12 : decode cX8_side 12 = .ok (.goto 24, 3) := by decide +kernel
theorem dX8_side_15 : decode cX8_side 15 = .ok (.aload_n 0, 1) := by decide +kernel
theorem dX8_side_16 : decode cX8_side 16 = .ok (.invokevirtual 184, 3) := by decide +kernel
theorem dX8_side_19 : decode cX8_side 19 = .ok (.ifCond .eq 12, 3) := by decide +kernel
theorem dX8_side_22 : decode cX8_side 22 = .ok (.aload_n 0, 1) := by decide +kernel
theorem dX8_side_23 : decode cX8_side 23 = .ok (.iload_n 1, 1) := by decide +kernel
theorem dX8_side_24 : decode cX8_side 24 = .ok (.iload_n 2, 1) := by decide +kernel
theorem dX8_side_25 : decode cX8_side 25 = .ok (.invokevirtual 227, 3) := by decide +kernel
theorem dX8_side_28 : decode cX8_side 28 = .ok (.ifCond .ne 7, 3) := by decide +kernel
theorem dX8_side_31 : decode cX8_side 31 = .ok (.iconst 2, 1) := by decide +kernel
theorem dX8_side_32 : decode cX8_side 32 = .ok (.goto 4, 3) := by decide +kernel
theorem dX8_side_35 : decode cX8_side 35 = .ok (.iconst 0, 1) := by decide +kernel
theorem dX8_side_36 : decode cX8_side 36 = .ok (.invokevirtual 138, 3) := by decide +kernel
theorem dX8_side_39 : decode cX8_side 39 = .ok (.ifCond .ne 5, 3) := by decide +kernel
theorem dX8_side_42 : decode cX8_side 42 = .ok (.iconst 0, 1) := by decide +kernel
theorem dX8_side_43 : decode cX8_side 43 = .ok (.ireturn, 1) := by decide +kernel
theorem dX8_side_44 : decode cX8_side 44 = .ok (.aload_n 0, 1) := by decide +kernel
theorem dX8_side_45 : decode cX8_side 45 = .ok (.invokevirtual 194, 3) := by decide +kernel
theorem dX8_side_48 : decode cX8_side 48 = .ok (.ireturn, 1) := by decide +kernel
theorem dX8_isPlainOf_0 : decode cX8_isPlainOf 0 = .ok (.iconst 1, 1) := by decide +kernel
theorem dX8_isPlainOf_1 : decode cX8_isPlainOf 1 = .ok (.istore_n 2, 1) := by decide +kernel
theorem dX8_isPlainOf_2 : decode cX8_isPlainOf 2 = .ok (.sipush 160, 3) := by decide +kernel
theorem dX8_isPlainOf_5 : decode cX8_isPlainOf 5 = .ok (.iload_n 1, 1) := by decide +kernel
theorem dX8_isPlainOf_6 : decode cX8_isPlainOf 6 = .ok (.imul, 1) := by decide +kernel
theorem dX8_isPlainOf_7 : decode cX8_isPlainOf 7 = .ok (.istore_n 3, 1) := by decide +kernel
theorem dX8_isPlainOf_8 : decode cX8_isPlainOf 8 = .ok (.iload_n 3, 1) := by decide +kernel
theorem dX8_isPlainOf_9 : decode cX8_isPlainOf 9 = .ok (.sipush 160, 3) := by decide +kernel
theorem dX8_isPlainOf_12 : decode cX8_isPlainOf 12 = .ok (.iload_n 1, 1) := by decide +kernel
theorem dX8_isPlainOf_13 : decode cX8_isPlainOf 13 = .ok (.imul, 1) := by decide +kernel
theorem dX8_isPlainOf_14 : decode cX8_isPlainOf 14 = .ok (.aload_n 0, 1) := by decide +kernel
theorem dX8_isPlainOf_15 : decode cX8_isPlainOf 15 = .ok (.getfield 19, 3) := by decide +kernel
theorem dX8_isPlainOf_18 : decode cX8_isPlainOf 18 = .ok (.iload_n 1, 1) := by decide +kernel
theorem dX8_isPlainOf_19 : decode cX8_isPlainOf 19 = .ok (.iaload, 1) := by decide +kernel
theorem dX8_isPlainOf_20 : decode cX8_isPlainOf 20 = .ok (.iadd, 1) := by decide +kernel
theorem dX8_isPlainOf_21 : decode cX8_isPlainOf 21 = .ok (.if_icmp .ge 43, 3) := by decide +kernel
theorem dX8_isPlainOf_24 : decode cX8_isPlainOf 24 = .ok (.iload_n 2, 1) := by decide +kernel
theorem dX8_isPlainOf_25 : decode cX8_isPlainOf 25 = .ok (.ifCond .eq 31, 3) := by decide +kernel
theorem dX8_isPlainOf_28 : decode cX8_isPlainOf 28 = .ok (.aload_n 0, 1) := by decide +kernel
theorem dX8_isPlainOf_29 : decode cX8_isPlainOf 29 = .ok (.getfield 25, 3) := by decide +kernel
theorem dX8_isPlainOf_32 : decode cX8_isPlainOf 32 = .ok (.iload_n 3, 1) := by decide +kernel
theorem dX8_isPlainOf_33 : decode cX8_isPlainOf 33 = .ok (.iaload, 1) := by decide +kernel
theorem dX8_isPlainOf_34 : decode cX8_isPlainOf 34 = .ok (.aload_n 0, 1) := by decide +kernel
theorem dX8_isPlainOf_35 : decode cX8_isPlainOf 35 = .ok (.getfield 28, 3) := by decide +kernel
theorem dX8_isPlainOf_38 : decode cX8_isPlainOf 38 = .ok (.iload_n 3, 1) := by decide +kernel
theorem dX8_isPlainOf_39 : decode cX8_isPlainOf 39 = .ok (.iaload, 1) := by decide +kernel
theorem dX8_isPlainOf_40 : decode cX8_isPlainOf 40 = .ok (.if_icmp .ne 16, 3) := by decide +kernel
theorem dX8_isPlainOf_43 : decode cX8_isPlainOf 43 = .ok (.aload_n 0, 1) := by decide +kernel
theorem dX8_isPlainOf_44 : decode cX8_isPlainOf 44 = .ok (.getfield 31, 3) := by decide +kernel
theorem dX8_isPlainOf_47 : decode cX8_isPlainOf 47 = .ok (.iload_n 3, 1) := by decide +kernel
theorem dX8_isPlainOf_48 : decode cX8_isPlainOf 48 = .ok (.iaload, 1) := by decide +kernel
theorem dX8_isPlainOf_49 : decode cX8_isPlainOf 49 = .ok (.ifCond .ne 7, 3) := by decide +kernel
theorem dX8_isPlainOf_52 : decode cX8_isPlainOf 52 = .ok (.iconst 1, 1) := by decide +kernel
theorem dX8_isPlainOf_53 : decode cX8_isPlainOf 53 = .ok (.goto 4, 3) := by decide +kernel
theorem dX8_isPlainOf_56 : decode cX8_isPlainOf 56 = .ok (.iconst 0, 1) := by decide +kernel
theorem dX8_isPlainOf_57 : decode cX8_isPlainOf 57 = .ok (.istore_n 2, 1) := by decide +kernel
theorem dX8_isPlainOf_58 : decode cX8_isPlainOf 58 = .ok (.iinc 3 1, 3) := by decide +kernel
theorem dX8_isPlainOf_61 : decode cX8_isPlainOf 61 = .ok (.goto (-53), 3) := by decide +kernel
theorem dX8_isPlainOf_64 : decode cX8_isPlainOf 64 = .ok (.iload_n 2, 1) := by decide +kernel
theorem dX8_isPlainOf_65 : decode cX8_isPlainOf 65 = .ok (.ireturn, 1) := by decide +kernel
theorem dX8_closed_0 : decode cX8_closed 0 = .ok (.iload_n 2, 1) := by decide +kernel
theorem dX8_closed_1 : decode cX8_closed 1 = .ok (.istore_n 3, 1) := by decide +kernel
theorem dX8_closed_2 : decode cX8_closed 2 = .ok (.iconst 0, 1) := by decide +kernel
theorem dX8_closed_3 : decode cX8_closed 3 = .ok (.istore 4, 2) := by decide +kernel
theorem dX8_closed_5 : decode cX8_closed 5 = .ok (.iload 4, 2) := by decide +kernel
theorem dX8_closed_7 : decode cX8_closed 7 = .ok (.bipush 32, 2) := by decide +kernel
theorem dX8_closed_9 : decode cX8_closed 9 = .ok (.if_icmp .ge 82, 3) := by decide +kernel
theorem dX8_closed_12 : decode cX8_closed 12 = .ok (.sipush 160, 3) := by decide +kernel
theorem dX8_closed_15 : decode cX8_closed 15 = .ok (.iload_n 1, 1) := by decide +kernel
theorem dX8_closed_16 : decode cX8_closed 16 = .ok (.imul, 1) := by decide +kernel
theorem dX8_closed_17 : decode cX8_closed 17 = .ok (.istore 5, 2) := by decide +kernel
theorem dX8_closed_19 : decode cX8_closed 19 = .ok (.iload 5, 2) := by decide +kernel
theorem dX8_closed_21 : decode cX8_closed 21 = .ok (.sipush 160, 3) := by decide +kernel
theorem dX8_closed_24 : decode cX8_closed 24 = .ok (.iload_n 1, 1) := by decide +kernel
theorem dX8_closed_25 : decode cX8_closed 25 = .ok (.imul, 1) := by decide +kernel
theorem dX8_closed_26 : decode cX8_closed 26 = .ok (.aload_n 0, 1) := by decide +kernel
theorem dX8_closed_27 : decode cX8_closed 27 = .ok (.getfield 19, 3) := by decide +kernel
theorem dX8_closed_30 : decode cX8_closed 30 = .ok (.iload_n 1, 1) := by decide +kernel
theorem dX8_closed_31 : decode cX8_closed 31 = .ok (.iaload, 1) := by decide +kernel
theorem dX8_closed_32 : decode cX8_closed 32 = .ok (.iadd, 1) := by decide +kernel
theorem dX8_closed_33 : decode cX8_closed 33 = .ok (.if_icmp .ge 52, 3) := by decide +kernel
theorem dX8_closed_36 : decode cX8_closed 36 = .ok (.iload_n 3, 1) := by decide +kernel
theorem dX8_closed_37 : decode cX8_closed 37 = .ok (.aload_n 0, 1) := by decide +kernel
theorem dX8_closed_38 : decode cX8_closed 38 = .ok (.getfield 25, 3) := by decide +kernel
theorem dX8_closed_41 : decode cX8_closed 41 = .ok (.iload 5, 2) := by decide +kernel
theorem dX8_closed_43 : decode cX8_closed 43 = .ok (.iaload, 1) := by decide +kernel
theorem dX8_closed_44 : decode cX8_closed 44 = .ok (.bipush 8, 2) := by decide +kernel
theorem dX8_closed_46 : decode cX8_closed 46 = .ok (.if_icmp .ne 30, 3) := by decide +kernel
theorem dX8_closed_49 : decode cX8_closed 49 = .ok (.iload_n 3, 1) := by decide +kernel
theorem dX8_closed_50 : decode cX8_closed 50 = .ok (.aload_n 0, 1) := by decide +kernel
theorem dX8_closed_51 : decode cX8_closed 51 = .ok (.getfield 22, 3) := by decide +kernel
theorem dX8_closed_54 : decode cX8_closed 54 = .ok (.iload 5, 2) := by decide +kernel
theorem dX8_closed_56 : decode cX8_closed 56 = .ok (.iaload, 1) := by decide +kernel
theorem dX8_closed_57 : decode cX8_closed 57 = .ok (.ishr, 1) := by decide +kernel
theorem dX8_closed_58 : decode cX8_closed 58 = .ok (.iconst 1, 1) := by decide +kernel
theorem dX8_closed_59 : decode cX8_closed 59 = .ok (.iand, 1) := by decide +kernel
theorem dX8_closed_60 : decode cX8_closed 60 = .ok (.iconst 1, 1) := by decide +kernel
theorem dX8_closed_61 : decode cX8_closed 61 = .ok (.if_icmp .ne 15, 3) := by decide +kernel
theorem dX8_closed_64 : decode cX8_closed 64 = .ok (.iconst 1, 1) := by decide +kernel
theorem dX8_closed_65 : decode cX8_closed 65 = .ok (.aload_n 0, 1) := by decide +kernel
theorem dX8_closed_66 : decode cX8_closed 66 = .ok (.getfield 34, 3) := by decide +kernel
theorem dX8_closed_69 : decode cX8_closed 69 = .ok (.iload 5, 2) := by decide +kernel
theorem dX8_closed_71 : decode cX8_closed 71 = .ok (.iaload, 1) := by decide +kernel
theorem dX8_closed_72 : decode cX8_closed 72 = .ok (.ishl, 1) := by decide +kernel
theorem dX8_closed_73 : decode cX8_closed 73 = .ok (.goto 4, 3) := by decide +kernel
theorem dX8_closed_76 : decode cX8_closed 76 = .ok (.iconst 0, 1) := by decide +kernel
theorem dX8_closed_77 : decode cX8_closed 77 = .ok (.ior, 1) := by decide +kernel
theorem dX8_closed_78 : decode cX8_closed 78 = .ok (.istore_n 3, 1) := by decide +kernel
theorem dX8_closed_79 : decode cX8_closed 79 = .ok (.iinc 5 1, 3) := by decide +kernel
theorem dX8_closed_82 : decode cX8_closed 82 = .ok (.goto (-63), 3) := by decide +kernel
theorem dX8_closed_85 : decode cX8_closed 85 = .ok (.iinc 4 1, 3) := by decide +kernel
theorem dX8_closed_88 : decode cX8_closed 88 = .ok (.goto (-83), 3) := by decide +kernel
theorem dX8_closed_91 : decode cX8_closed 91 = .ok (.iload_n 3, 1) := by decide +kernel
theorem dX8_closed_92 : decode cX8_closed 92 = .ok (.ireturn, 1) := by decide +kernel
set_option maxRecDepth 20000 in
theorem ggX8_step_X8_closed : GoodIn wsX8_step wsX8_closed := goodIn_g _ [(9, 1), (1, 4), (10, 47)] (by exact rfl) (by decide +kernel)
set_option maxRecDepth 20000 in
theorem gX8_step_X8_closed : GoodIn wsX8_step (wsV RX8 230 RX8 yX8_closed wsX8_closed) := goodIn_app (goodIn_of _ (by decide +kernel)) ggX8_step_X8_closed
theorem dX8_step_0 : decode cX8_step 0 = .ok (.iconst 0, 1) := by decide +kernel
theorem dX8_step_1 : decode cX8_step 1 = .ok (.istore 4, 2) := by decide +kernel
theorem dX8_step_3 : decode cX8_step 3 = .ok (.sipush 160, 3) := by decide +kernel
theorem dX8_step_6 : decode cX8_step 6 = .ok (.iload_n 1, 1) := by decide +kernel
theorem dX8_step_7 : decode cX8_step 7 = .ok (.imul, 1) := by decide +kernel
theorem dX8_step_8 : decode cX8_step 8 = .ok (.istore 5, 2) := by decide +kernel
theorem dX8_step_10 : decode cX8_step 10 = .ok (.iload 5, 2) := by decide +kernel
theorem dX8_step_12 : decode cX8_step 12 = .ok (.sipush 160, 3) := by decide +kernel
theorem dX8_step_15 : decode cX8_step 15 = .ok (.iload_n 1, 1) := by decide +kernel
theorem dX8_step_16 : decode cX8_step 16 = .ok (.imul, 1) := by decide +kernel
theorem dX8_step_17 : decode cX8_step 17 = .ok (.aload_n 0, 1) := by decide +kernel
theorem dX8_step_18 : decode cX8_step 18 = .ok (.getfield 19, 3) := by decide +kernel
theorem dX8_step_21 : decode cX8_step 21 = .ok (.iload_n 1, 1) := by decide +kernel
theorem dX8_step_22 : decode cX8_step 22 = .ok (.iaload, 1) := by decide +kernel
theorem dX8_step_23 : decode cX8_step 23 = .ok (.iadd, 1) := by decide +kernel
theorem dX8_step_24 : decode cX8_step 24 = .ok (.if_icmp .ge 53, 3) := by decide +kernel
theorem dX8_step_27 : decode cX8_step 27 = .ok (.iload 4, 2) := by decide +kernel
theorem dX8_step_29 : decode cX8_step 29 = .ok (.aload_n 0, 1) := by decide +kernel
theorem dX8_step_30 : decode cX8_step 30 = .ok (.getfield 25, 3) := by decide +kernel
theorem dX8_step_33 : decode cX8_step 33 = .ok (.iload 5, 2) := by decide +kernel
theorem dX8_step_35 : decode cX8_step 35 = .ok (.iaload, 1) := by decide +kernel
theorem dX8_step_36 : decode cX8_step 36 = .ok (.iload_n 3, 1) := by decide +kernel
theorem dX8_step_37 : decode cX8_step 37 = .ok (.if_icmp .ne 30, 3) := by decide +kernel
theorem dX8_step_40 : decode cX8_step 40 = .ok (.iload_n 2, 1) := by decide +kernel
theorem dX8_step_41 : decode cX8_step 41 = .ok (.aload_n 0, 1) := by decide +kernel
theorem dX8_step_42 : decode cX8_step 42 = .ok (.getfield 22, 3) := by decide +kernel
theorem dX8_step_45 : decode cX8_step 45 = .ok (.iload 5, 2) := by decide +kernel
theorem dX8_step_47 : decode cX8_step 47 = .ok (.iaload, 1) := by decide +kernel
theorem dX8_step_48 : decode cX8_step 48 = .ok (.ishr, 1) := by decide +kernel
theorem dX8_step_49 : decode cX8_step 49 = .ok (.iconst 1, 1) := by decide +kernel
theorem dX8_step_50 : decode cX8_step 50 = .ok (.iand, 1) := by decide +kernel
theorem dX8_step_51 : decode cX8_step 51 = .ok (.iconst 1, 1) := by decide +kernel
theorem dX8_step_52 : decode cX8_step 52 = .ok (.if_icmp .ne 15, 3) := by decide +kernel
theorem dX8_step_55 : decode cX8_step 55 = .ok (.iconst 1, 1) := by decide +kernel
theorem dX8_step_56 : decode cX8_step 56 = .ok (.aload_n 0, 1) := by decide +kernel
theorem dX8_step_57 : decode cX8_step 57 = .ok (.getfield 34, 3) := by decide +kernel
theorem dX8_step_60 : decode cX8_step 60 = .ok (.iload 5, 2) := by decide +kernel
theorem dX8_step_62 : decode cX8_step 62 = .ok (.iaload, 1) := by decide +kernel
theorem dX8_step_63 : decode cX8_step 63 = .ok (.ishl, 1) := by decide +kernel
theorem dX8_step_64 : decode cX8_step 64 = .ok (.goto 4, 3) := by decide +kernel
theorem dX8_step_67 : decode cX8_step 67 = .ok (.iconst 0, 1) := by decide +kernel
theorem dX8_step_68 : decode cX8_step 68 = .ok (.ior, 1) := by decide +kernel
theorem dX8_step_69 : decode cX8_step 69 = .ok (.istore 4, 2) := by decide +kernel
theorem dX8_step_71 : decode cX8_step 71 = .ok (.iinc 5 1, 3) := by decide +kernel
theorem dX8_step_74 : decode cX8_step 74 = .ok (.goto (-64), 3) := by decide +kernel
theorem dX8_step_77 : decode cX8_step 77 = .ok (.aload_n 0, 1) := by decide +kernel
theorem dX8_step_78 : decode cX8_step 78 = .ok (.iload_n 1, 1) := by decide +kernel
theorem dX8_step_79 : decode cX8_step 79 = .ok (.iload 4, 2) := by decide +kernel
theorem dX8_step_81 : decode cX8_step 81 = .ok (.invokevirtual 230, 3) := by decide +kernel
theorem dX8_step_84 : decode cX8_step 84 = .ok (.ireturn, 1) := by decide +kernel
theorem dX8_placeOf_0 : decode cX8_placeOf 0 = .ok (.iconst 0, 1) := by decide +kernel
theorem dX8_placeOf_1 : decode cX8_placeOf 1 = .ok (.istore 5, 2) := by decide +kernel
theorem dX8_placeOf_3 : decode cX8_placeOf 3 = .ok (.iload 5, 2) := by decide +kernel
theorem dX8_placeOf_5 : decode cX8_placeOf 5 = .ok (.aload_n 0, 1) := by decide +kernel
theorem dX8_placeOf_6 : decode cX8_placeOf 6 = .ok (.getfield 233, 3) := by decide +kernel
theorem dX8_placeOf_9 : decode cX8_placeOf 9 = .ok (.if_icmp .ge 34, 3) := by decide +kernel
theorem dX8_placeOf_12 : decode cX8_placeOf 12 = .ok (.aload_n 0, 1) := by decide +kernel
theorem dX8_placeOf_13 : decode cX8_placeOf 13 = .ok (.getfield 75, 3) := by decide +kernel
theorem dX8_placeOf_16 : decode cX8_placeOf 16 = .ok (.iload 5, 2) := by decide +kernel
theorem dX8_placeOf_18 : decode cX8_placeOf 18 = .ok (.iaload, 1) := by decide +kernel
theorem dX8_placeOf_19 : decode cX8_placeOf 19 = .ok (.iload_n 1, 1) := by decide +kernel
theorem dX8_placeOf_20 : decode cX8_placeOf 20 = .ok (.if_icmp .ne 17, 3) := by decide +kernel
theorem dX8_placeOf_23 : decode cX8_placeOf 23 = .ok (.aload_n 0, 1) := by decide +kernel
theorem dX8_placeOf_24 : decode cX8_placeOf 24 = .ok (.getfield 78, 3) := by decide +kernel
theorem dX8_placeOf_27 : decode cX8_placeOf 27 = .ok (.iload 5, 2) := by decide +kernel
theorem dX8_placeOf_29 : decode cX8_placeOf 29 = .ok (.iaload, 1) := by decide +kernel
theorem dX8_placeOf_30 : decode cX8_placeOf 30 = .ok (.iload_n 2, 1) := by decide +kernel
theorem dX8_placeOf_31 : decode cX8_placeOf 31 = .ok (.if_icmp .ne 6, 3) := by decide +kernel
theorem dX8_placeOf_34 : decode cX8_placeOf 34 = .ok (.iload 5, 2) := by decide +kernel
theorem dX8_placeOf_36 : decode cX8_placeOf 36 = .ok (.ireturn, 1) := by decide +kernel
theorem dX8_placeOf_37 : decode cX8_placeOf 37 = .ok (.iinc 5 1, 3) := by decide +kernel
theorem dX8_placeOf_40 : decode cX8_placeOf 40 = .ok (.goto (-37), 3) := by decide +kernel
theorem dX8_placeOf_43 : decode cX8_placeOf 43 = .ok (.aload_n 0, 1) := by decide +kernel
theorem dX8_placeOf_44 : decode cX8_placeOf 44 = .ok (.getfield 233, 3) := by decide +kernel
theorem dX8_placeOf_47 : decode cX8_placeOf 47 = .ok (.sipush 200, 3) := by decide +kernel
theorem dX8_placeOf_50 : decode cX8_placeOf 50 = .ok (.if_icmp .ne 5, 3) := by decide +kernel
theorem dX8_placeOf_53 : decode cX8_placeOf 53 = .ok (.iconst (-1), 1) := by decide +kernel
theorem dX8_placeOf_54 : decode cX8_placeOf 54 = .ok (.ireturn, 1) := by decide +kernel
theorem dX8_placeOf_55 : decode cX8_placeOf 55 = .ok (.aload_n 0, 1) := by decide +kernel
theorem dX8_placeOf_56 : decode cX8_placeOf 56 = .ok (.getfield 75, 3) := by decide +kernel
theorem dX8_placeOf_59 : decode cX8_placeOf 59 = .ok (.aload_n 0, 1) := by decide +kernel
theorem dX8_placeOf_60 : decode cX8_placeOf 60 = .ok (.getfield 233, 3) := by decide +kernel
theorem dX8_placeOf_63 : decode cX8_placeOf 63 = .ok (.iload_n 1, 1) := by decide +kernel
theorem dX8_placeOf_64 : decode cX8_placeOf 64 = .ok (.iastore, 1) := by decide +kernel
theorem dX8_placeOf_65 : decode cX8_placeOf 65 = .ok (.aload_n 0, 1) := by decide +kernel
theorem dX8_placeOf_66 : decode cX8_placeOf 66 = .ok (.getfield 78, 3) := by decide +kernel
theorem dX8_placeOf_69 : decode cX8_placeOf 69 = .ok (.aload_n 0, 1) := by decide +kernel
theorem dX8_placeOf_70 : decode cX8_placeOf 70 = .ok (.getfield 233, 3) := by decide +kernel
theorem dX8_placeOf_73 : decode cX8_placeOf 73 = .ok (.iload_n 2, 1) := by decide +kernel
theorem dX8_placeOf_74 : decode cX8_placeOf 74 = .ok (.iastore, 1) := by decide +kernel
theorem dX8_placeOf_75 : decode cX8_placeOf 75 = .ok (.aload_n 0, 1) := by decide +kernel
theorem dX8_placeOf_76 : decode cX8_placeOf 76 = .ok (.getfield 84, 3) := by decide +kernel
theorem dX8_placeOf_79 : decode cX8_placeOf 79 = .ok (.aload_n 0, 1) := by decide +kernel
theorem dX8_placeOf_80 : decode cX8_placeOf 80 = .ok (.getfield 233, 3) := by decide +kernel
theorem dX8_placeOf_83 : decode cX8_placeOf 83 = .ok (.iload_n 3, 1) := by decide +kernel
theorem dX8_placeOf_84 : decode cX8_placeOf 84 = .ok (.iastore, 1) := by decide +kernel
theorem dX8_placeOf_85 : decode cX8_placeOf 85 = .ok (.aload_n 0, 1) := by decide +kernel
theorem dX8_placeOf_86 : decode cX8_placeOf 86 = .ok (.getfield 87, 3) := by decide +kernel
theorem dX8_placeOf_89 : decode cX8_placeOf 89 = .ok (.aload_n 0, 1) := by decide +kernel
theorem dX8_placeOf_90 : decode cX8_placeOf 90 = .ok (.getfield 233, 3) := by decide +kernel
theorem dX8_placeOf_93 : decode cX8_placeOf 93 = .ok (.iload 4, 2) := by decide +kernel
theorem dX8_placeOf_95 : decode cX8_placeOf 95 = .ok (.iastore, 1) := by decide +kernel
theorem dX8_placeOf_96 : decode cX8_placeOf 96 = .ok (.aload_n 0, 1) := by decide +kernel
theorem dX8_placeOf_97 : decode cX8_placeOf 97 = .ok (.dup, 1) := by decide +kernel
theorem dX8_placeOf_98 : decode cX8_placeOf 98 = .ok (.getfield 233, 3) := by decide +kernel
theorem dX8_placeOf_101 : decode cX8_placeOf 101 = .ok (.iconst 1, 1) := by decide +kernel
theorem dX8_placeOf_102 : decode cX8_placeOf 102 = .ok (.iadd, 1) := by decide +kernel
theorem dX8_placeOf_103 : decode cX8_placeOf 103 = .ok (.putfield 233, 3) := by decide +kernel
theorem dX8_placeOf_106 : decode cX8_placeOf 106 = .ok (.aload_n 0, 1) := by decide +kernel
theorem dX8_placeOf_107 : decode cX8_placeOf 107 = .ok (.getfield 233, 3) := by decide +kernel
theorem dX8_placeOf_110 : decode cX8_placeOf 110 = .ok (.iconst 1, 1) := by decide +kernel
theorem dX8_placeOf_111 : decode cX8_placeOf 111 = .ok (.isub, 1) := by decide +kernel
theorem dX8_placeOf_112 : decode cX8_placeOf 112 = .ok (.ireturn, 1) := by decide +kernel
theorem dX8_isKept_0 : decode cX8_isKept 0 = .ok (.iload_n 0, 1) := by decide +kernel
theorem dX8_isKept_1 : decode cX8_isKept 1 = .ok (.iconst 1, 1) := by decide +kernel
theorem dX8_isKept_2 : decode cX8_isKept 2 = .ok (.if_icmp .ne 19, 3) := by decide +kernel
theorem dX8_isKept_5 : decode cX8_isKept 5 = .ok (.iload_n 1, 1) := by decide +kernel
theorem dX8_isKept_6 : decode cX8_isKept 6 = .ok (.ifCond .eq 11, 3) := by decide +kernel
theorem dX8_isKept_9 : decode cX8_isKept 9 = .ok (.iload_n 2, 1) := by decide +kernel
theorem dX8_isKept_10 : decode cX8_isKept 10 = .ok (.ifCond .eq 7, 3) := by decide +kernel
theorem dX8_isKept_13 : decode cX8_isKept 13 = .ok (.iconst 1, 1) := by decide +kernel
theorem dX8_isKept_14 : decode cX8_isKept 14 = .ok (.goto 37, 3) := by decide +kernel
theorem dX8_isKept_17 : decode cX8_isKept 17 = .ok (.iconst 0, 1) := by decide +kernel
theorem dX8_isKept_18 : decode cX8_isKept 18 = .ok (.goto 33, 3) := by decide +kernel
theorem dX8_isKept_21 : decode cX8_isKept 21 = .ok (.iload_n 0, 1) := by decide +kernel
theorem dX8_isKept_22 : decode cX8_isKept 22 = .ok (.iconst 3, 1) := by decide +kernel
