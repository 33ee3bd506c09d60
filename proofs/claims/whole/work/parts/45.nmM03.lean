theorem dX8_behind_31 : decode cX8_behind 31 = .ok (.iload_n 2, 1) := by decide +kernel
theorem dX8_behind_32 : decode cX8_behind 32 = .ok (.iaload, 1) := by decide +kernel
theorem dX8_behind_33 : decode cX8_behind 33 = .ok (.iload 4, 2) := by decide +kernel
theorem dX8_behind_35 : decode cX8_behind 35 = .ok (.if_icmp .ne 9, 3) := by decide +kernel
theorem dX8_behind_38 : decode cX8_behind 38 = .ok (.iload_n 2, 1) := by decide +kernel
theorem dX8_behind_39 : decode cX8_behind 39 = .ok (.iconst 1, 1) := by decide +kernel
theorem dX8_behind_40 : decode cX8_behind 40 = .ok (.iadd, 1) := by decide +kernel
theorem dX8_behind_41 : decode cX8_behind 41 = .ok (.goto 4, 3) := by decide +kernel
theorem dX8_behind_44 : decode cX8_behind 44 = .ok (.iconst (-1), 1) := by decide +kernel
theorem dX8_behind_45 : decode cX8_behind 45 = .ok (.ireturn, 1) := by decide +kernel
set_option maxRecDepth 20000 in
theorem ggX8_rests_X8_isEndOf : GoodIn wsX8_rests wsX8_isEndOf := goodIn_g _ [(12, 2), (25, 47)] (by exact rfl) (by decide +kernel)
set_option maxRecDepth 20000 in
theorem gX8_rests_X8_isEndOf : GoodIn wsX8_rests (wsV RX8 201 RX8 yX8_isEndOf wsX8_isEndOf) := goodIn_app (goodIn_of _ (by decide +kernel)) ggX8_rests_X8_isEndOf
set_option maxRecDepth 20000 in
theorem ggX8_rests_X8_behind : GoodIn wsX8_rests wsX8_behind := goodIn_g _ [(17, 1), (2, 1), (18, 4), (11, 1), (22, 50)] (by exact rfl) (by decide +kernel)
set_option maxRecDepth 20000 in
theorem gX8_rests_X8_behind : GoodIn wsX8_rests (wsV RX8 285 RX8 yX8_behind wsX8_behind) := goodIn_app (goodIn_of _ (by decide +kernel)) ggX8_rests_X8_behind
theorem dX8_rests_0 : decode cX8_rests 0 = .ok (.iconst 0, 1) := by decide +kernel
theorem dX8_rests_1 : decode cX8_rests 1 = .ok (.istore_n 3, 1) := by decide +kernel
theorem dX8_rests_2 : decode cX8_rests 2 = .ok (.iload_n 3, 1) := by decide +kernel
theorem dX8_rests_3 : decode cX8_rests 3 = .ok (.sipush 288, 3) := by decide +kernel
theorem dX8_rests_6 : decode cX8_rests 6 = .ok (.if_icmp .ge 45, 3) := by decide +kernel
theorem dX8_rests_9 : decode cX8_rests 9 = .ok (.aload_n 0, 1) := by decide +kernel
theorem dX8_rests_10 : decode cX8_rests 10 = .ok (.getfield 96, 3) := by decide +kernel
theorem dX8_rests_13 : decode cX8_rests 13 = .ok (.iload_n 3, 1) := by decide +kernel
theorem dX8_rests_14 : decode cX8_rests 14 = .ok (.iload_n 3, 1) := by decide +kernel
theorem dX8_rests_15 : decode cX8_rests 15 = .ok (.bipush 32, 2) := by decide +kernel
theorem dX8_rests_17 : decode cX8_rests 17 = .ok (.idiv, 1) := by decide +kernel
theorem dX8_rests_18 : decode cX8_rests 18 = .ok (.aload_n 0, 1) := by decide +kernel
theorem dX8_rests_19 : decode cX8_rests 19 = .ok (.getfield 135, 3) := by decide +kernel
theorem dX8_rests_22 : decode cX8_rests 22 = .ok (.if_icmp .ne 19, 3) := by decide +kernel
theorem dX8_rests_25 : decode cX8_rests 25 = .ok (.aload_n 0, 1) := by decide +kernel
theorem dX8_rests_26 : decode cX8_rests 26 = .ok (.iload_n 1, 1) := by decide +kernel
theorem dX8_rests_27 : decode cX8_rests 27 = .ok (.iload_n 3, 1) := by decide +kernel
theorem dX8_rests_28 : decode cX8_rests 28 = .ok (.bipush 32, 2) := by decide +kernel
theorem dX8_rests_30 : decode cX8_rests 30 = .ok (.irem, 1) := by decide +kernel
theorem dX8_rests_31 : decode cX8_rests 31 = .ok (.invokevirtual 201, 3) := by decide +kernel
theorem dX8_rests_34 : decode cX8_rests 34 = .ok (.ifCond .eq 7, 3) := by decide +kernel
theorem dX8_rests_37 : decode cX8_rests 37 = .ok (.iconst 0, 1) := by decide +kernel
theorem dX8_rests_38 : decode cX8_rests 38 = .ok (.goto 6, 3) := by decide +kernel
theorem dX8_rests_41 : decode cX8_rests 41 = .ok (.ldc_w 284, 3) := by decide +kernel
theorem dX8_rests_44 : decode cX8_rests 44 = .ok (.iastore, 1) := by decide +kernel
theorem dX8_rests_45 : decode cX8_rests 45 = .ok (.iinc 3 1, 3) := by decide +kernel
theorem dX8_rests_48 : decode cX8_rests 48 = .ok (.goto (-46), 3) := by decide +kernel
theorem dX8_rests_51 : decode cX8_rests 51 = .ok (.iconst 1, 1) := by decide +kernel
theorem dX8_rests_52 : decode cX8_rests 52 = .ok (.istore_n 3, 1) := by decide +kernel
theorem dX8_rests_53 : decode cX8_rests 53 = .ok (.iload_n 3, 1) := by decide +kernel
theorem dX8_rests_54 : decode cX8_rests 54 = .ok (.ifCond .eq 228, 3) := by decide +kernel
theorem dX8_rests_57 : decode cX8_rests 57 = .ok (.iconst 0, 1) := by decide +kernel
theorem dX8_rests_58 : decode cX8_rests 58 = .ok (.istore_n 3, 1) := by decide +kernel
theorem dX8_rests_59 : decode cX8_rests 59 = .ok (.sipush 160, 3) := by decide +kernel
theorem dX8_rests_62 : decode cX8_rests 62 = .ok (.iload_n 1, 1) := by decide +kernel
theorem dX8_rests_63 : decode cX8_rests 63 = .ok (.imul, 1) := by decide +kernel
theorem dX8_rests_64 : decode cX8_rests 64 = .ok (.istore 4, 2) := by decide +kernel
theorem dX8_rests_66 : decode cX8_rests 66 = .ok (.iload 4, 2) := by decide +kernel
theorem dX8_rests_68 : decode cX8_rests 68 = .ok (.sipush 160, 3) := by decide +kernel
theorem dX8_rests_71 : decode cX8_rests 71 = .ok (.iload_n 1, 1) := by decide +kernel
theorem dX8_rests_72 : decode cX8_rests 72 = .ok (.imul, 1) := by decide +kernel
theorem dX8_rests_73 : decode cX8_rests 73 = .ok (.aload_n 0, 1) := by decide +kernel
theorem dX8_rests_74 : decode cX8_rests 74 = .ok (.getfield 19, 3) := by decide +kernel
theorem dX8_rests_77 : decode cX8_rests 77 = .ok (.iload_n 1, 1) := by decide +kernel
theorem dX8_rests_78 : decode cX8_rests 78 = .ok (.iaload, 1) := by decide +kernel
theorem dX8_rests_79 : decode cX8_rests 79 = .ok (.iadd, 1) := by decide +kernel
theorem dX8_rests_80 : decode cX8_rests 80 = .ok (.if_icmp .ge 199, 3) := by decide +kernel
theorem dX8_rests_83 : decode cX8_rests 83 = .ok (.iconst 0, 1) := by decide +kernel
theorem dX8_rests_84 : decode cX8_rests 84 = .ok (.istore 5, 2) := by decide +kernel
theorem dX8_rests_86 : decode cX8_rests 86 = .ok (.iload 5, 2) := by decide +kernel
theorem dX8_rests_88 : decode cX8_rests 88 = .ok (.aload_n 0, 1) := by decide +kernel
theorem dX8_rests_89 : decode cX8_rests 89 = .ok (.getfield 135, 3) := by decide +kernel
theorem dX8_rests_92 : decode cX8_rests 92 = .ok (.if_icmp .gt 181, 3) := by decide +kernel
theorem dX8_rests_95 : decode cX8_rests 95 = .ok (.aload_n 0, 1) := by decide +kernel
theorem dX8_rests_96 : decode cX8_rests 96 = .ok (.iload 4, 2) := by decide +kernel
theorem dX8_rests_98 : decode cX8_rests 98 = .ok (.iload 5, 2) := by decide +kernel
theorem dX8_rests_100 : decode cX8_rests 100 = .ok (.iload_n 2, 1) := by decide +kernel
theorem dX8_rests_101 : decode cX8_rests 101 = .ok (.invokevirtual 285, 3) := by decide +kernel
theorem dX8_rests_104 : decode cX8_rests 104 = .ok (.istore 6, 2) := by decide +kernel
theorem dX8_rests_106 : decode cX8_rests 106 = .ok (.iload 6, 2) := by decide +kernel
theorem dX8_rests_108 : decode cX8_rests 108 = .ok (.iconst (-1), 1) := by decide +kernel
theorem dX8_rests_109 : decode cX8_rests 109 = .ok (.if_icmp .eq 27, 3) := by decide +kernel
theorem dX8_rests_112 : decode cX8_rests 112 = .ok (.aload_n 0, 1) := by decide +kernel
theorem dX8_rests_113 : decode cX8_rests 113 = .ok (.getfield 96, 3) := by decide +kernel
theorem dX8_rests_116 : decode cX8_rests 116 = .ok (.bipush 32, 2) := by decide +kernel
theorem dX8_rests_118 : decode cX8_rests 118 = .ok (.iload 6, 2) := by decide +kernel
theorem dX8_rests_120 : decode cX8_rests 120 = .ok (.imul, 1) := by decide +kernel
theorem dX8_rests_121 : decode cX8_rests 121 = .ok (.aload_n 0, 1) := by decide +kernel
theorem dX8_rests_122 : decode cX8_rests 122 = .ok (.getfield 34, 3) := by decide +kernel
theorem dX8_rests_125 : decode cX8_rests 125 = .ok (.iload 4, 2) := by decide +kernel
theorem dX8_rests_127 : decode cX8_rests 127 = .ok (.iaload, 1) := by decide +kernel
theorem dX8_rests_128 : decode cX8_rests 128 = .ok (.iadd, 1) := by decide +kernel
theorem dX8_rests_129 : decode cX8_rests 129 = .ok (.iaload, 1) := by decide +kernel
theorem dX8_rests_130 : decode cX8_rests 130 = .ok (.ldc_w 284, 3) := by decide +kernel
theorem dX8_rests_133 : decode cX8_rests 133 = .ok (.if_icmp .ne 9, 3) := by decide +kernel
theorem dX8_rests_136 : decode cX8_rests 136 = .ok (.ldc_w 284, 3) := by decide +kernel
theorem dX8_rests_139 : decode cX8_rests 139 = .ok (.goto 29, 3) := by decide +kernel
theorem dX8_rests_142 : decode cX8_rests 142 = .ok (.aload_n 0, 1) := by decide +kernel
theorem dX8_rests_143 : decode cX8_rests 143 = .ok (.getfield 96, 3) := by decide +kernel
theorem dX8_rests_146 : decode cX8_rests 146 = .ok (.bipush 32, 2) := by decide +kernel
theorem dX8_rests_148 : decode cX8_rests 148 = .ok (.iload 6, 2) := by decide +kernel
theorem dX8_rests_150 : decode cX8_rests 150 = .ok (.imul, 1) := by decide +kernel
theorem dX8_rests_151 : decode cX8_rests 151 = .ok (.aload_n 0, 1) := by decide +kernel
theorem dX8_rests_152 : decode cX8_rests 152 = .ok (.getfield 34, 3) := by decide +kernel
theorem dX8_rests_155 : decode cX8_rests 155 = .ok (.iload 4, 2) := by decide +kernel
theorem dX8_rests_157 : decode cX8_rests 157 = .ok (.iaload, 1) := by decide +kernel
theorem dX8_rests_158 : decode cX8_rests 158 = .ok (.iadd, 1) := by decide +kernel
theorem dX8_rests_159 : decode cX8_rests 159 = .ok (.iaload, 1) := by decide +kernel
theorem dX8_rests_160 : decode cX8_rests 160 = .ok (.aload_n 0, 1) := by decide +kernel
theorem dX8_rests_161 : decode cX8_rests 161 = .ok (.getfield 31, 3) := by decide +kernel
theorem dX8_rests_164 : decode cX8_rests 164 = .ok (.iload 4, 2) := by decide +kernel
theorem dX8_rests_166 : decode cX8_rests 166 = .ok (.iaload, 1) := by decide +kernel
theorem dX8_rests_167 : decode cX8_rests 167 = .ok (.iadd, 1) := by decide +kernel
theorem dX8_rests_168 : decode cX8_rests 168 = .ok (.istore 7, 2) := by decide +kernel
theorem dX8_rests_170 : decode cX8_rests 170 = .ok (.iload_n 3, 1) := by decide +kernel
theorem dX8_rests_171 : decode cX8_rests 171 = .ok (.ifCond .ne 26, 3) := by decide +kernel
theorem dX8_rests_174 : decode cX8_rests 174 = .ok (.iload 7, 2) := by decide +kernel
theorem dX8_rests_176 : decode cX8_rests 176 = .ok (.aload_n 0, 1) := by decide +kernel
theorem dX8_rests_177 : decode cX8_rests 177 = .ok (.getfield 96, 3) := by decide +kernel
theorem dX8_rests_180 : decode cX8_rests 180 = .ok (.bipush 32, 2) := by decide +kernel
theorem dX8_rests_182 : decode cX8_rests 182 = .ok (.iload 5, 2) := by decide +kernel
theorem dX8_rests_184 : decode cX8_rests 184 = .ok (.imul, 1) := by decide +kernel
theorem dX8_rests_185 : decode cX8_rests 185 = .ok (.aload_n 0, 1) := by decide +kernel
theorem dX8_rests_186 : decode cX8_rests 186 = .ok (.getfield 22, 3) := by decide +kernel
theorem dX8_rests_189 : decode cX8_rests 189 = .ok (.iload 4, 2) := by decide +kernel
theorem dX8_rests_191 : decode cX8_rests 191 = .ok (.iaload, 1) := by decide +kernel
theorem dX8_rests_192 : decode cX8_rests 192 = .ok (.iadd, 1) := by decide +kernel
theorem dX8_rests_193 : decode cX8_rests 193 = .ok (.iaload, 1) := by decide +kernel
theorem dX8_rests_194 : decode cX8_rests 194 = .ok (.if_icmp .ge 7, 3) := by decide +kernel
theorem dX8_rests_197 : decode cX8_rests 197 = .ok (.iconst 1, 1) := by decide +kernel
theorem dX8_rests_198 : decode cX8_rests 198 = .ok (.goto 4, 3) := by decide +kernel
theorem dX8_rests_201 : decode cX8_rests 201 = .ok (.iconst 0, 1) := by decide +kernel
theorem dX8_rests_202 : decode cX8_rests 202 = .ok (.istore_n 3, 1) := by decide +kernel
theorem dX8_rests_203 : decode cX8_rests 203 = .ok (.aload_n 0, 1) := by decide +kernel
theorem dX8_rests_204 : decode cX8_rests 204 = .ok (.getfield 96, 3) := by decide +kernel
theorem dX8_rests_207 : decode cX8_rests 207 = .ok (.bipush 32, 2) := by decide +kernel
theorem dX8_rests_209 : decode cX8_rests 209 = .ok (.iload 5, 2) := by decide +kernel
theorem dX8_rests_211 : decode cX8_rests 211 = .ok (.imul, 1) := by decide +kernel
theorem dX8_rests_212 : decode cX8_rests 212 = .ok (.aload_n 0, 1) := by decide +kernel
theorem dX8_rests_213 : decode cX8_rests 213 = .ok (.getfield 22, 3) := by decide +kernel
theorem dX8_rests_216 : decode cX8_rests 216 = .ok (.iload 4, 2) := by decide +kernel
theorem dX8_rests_218 : decode cX8_rests 218 = .ok (.iaload, 1) := by decide +kernel
theorem dX8_rests_219 : decode cX8_rests 219 = .ok (.iadd, 1) := by decide +kernel
theorem dX8_rests_220 : decode cX8_rests 220 = .ok (.iload 7, 2) := by decide +kernel
theorem dX8_rests_222 : decode cX8_rests 222 = .ok (.aload_n 0, 1) := by decide +kernel
theorem dX8_rests_223 : decode cX8_rests 223 = .ok (.getfield 96, 3) := by decide +kernel
theorem dX8_rests_226 : decode cX8_rests 226 = .ok (.bipush 32, 2) := by decide +kernel
theorem dX8_rests_228 : decode cX8_rests 228 = .ok (.iload 5, 2) := by decide +kernel
theorem dX8_rests_230 : decode cX8_rests 230 = .ok (.imul, 1) := by decide +kernel
theorem dX8_rests_231 : decode cX8_rests 231 = .ok (.aload_n 0, 1) := by decide +kernel
theorem dX8_rests_232 : decode cX8_rests 232 = .ok (.getfield 22, 3) := by decide +kernel
theorem dX8_rests_235 : decode cX8_rests 235 = .ok (.iload 4, 2) := by decide +kernel
theorem dX8_rests_237 : decode cX8_rests 237 = .ok (.iaload, 1) := by decide +kernel
theorem dX8_rests_238 : decode cX8_rests 238 = .ok (.iadd, 1) := by decide +kernel
theorem dX8_rests_239 : decode cX8_rests 239 = .ok (.iaload, 1) := by decide +kernel
theorem dX8_rests_240 : decode cX8_rests 240 = .ok (.if_icmp .ge 8, 3) := by decide +kernel
theorem dX8_rests_243 : decode cX8_rests 243 = .ok (.iload 7, 2) := by decide +kernel
theorem dX8_rests_245 : decode cX8_rests 245 = .ok (.goto 21, 3) := by decide +kernel
theorem dX8_rests_248 : decode cX8_rests 248 = .ok (.aload_n 0, 1) := by decide +kernel
theorem dX8_rests_249 : decode cX8_rests 249 = .ok (.getfield 96, 3) := by decide +kernel
theorem dX8_rests_252 : decode cX8_rests 252 = .ok (.bipush 32, 2) := by decide +kernel
theorem dX8_rests_254 : decode cX8_rests 254 = .ok (.iload 5, 2) := by decide +kernel
theorem dX8_rests_256 : decode cX8_rests 256 = .ok (.imul, 1) := by decide +kernel
theorem dX8_rests_257 : decode cX8_rests 257 = .ok (.aload_n 0, 1) := by decide +kernel
theorem dX8_rests_258 : decode cX8_rests 258 = .ok (.getfield 22, 3) := by decide +kernel
theorem dX8_rests_261 : decode cX8_rests 261 = .ok (.iload 4, 2) := by decide +kernel
theorem dX8_rests_263 : decode cX8_rests 263 = .ok (.iaload, 1) := by decide +kernel
theorem dX8_rests_264 : decode cX8_rests 264 = .ok (.iadd, 1) := by decide +kernel
theorem dX8_rests_265 : decode cX8_rests 265 = .ok (.iaload, 1) := by decide +kernel
theorem dX8_rests_266 : decode cX8_rests 266 = .ok (.iastore, 1) := by decide +kernel
theorem dX8_rests_267 : decode cX8_rests 267 = .ok (.iinc 5 1, 3) := by decide +kernel
theorem dX8_rests_270 : decode cX8_rests 270 = .ok (.goto (-184), 3) := by decide +kernel
theorem dX8_rests_273 : decode cX8_rests 273 = .ok (.iinc 4 1, 3) := by decide +kernel
theorem dX8_rests_276 : decode cX8_rests 276 = .ok (.goto (-210), 3) := by decide +kernel
theorem dX8_rests_279 : decode cX8_rests 279 = .ok (.goto (-226), 3) := by decide +kernel
theorem dX8_rests_282 : decode cX8_rests 282 = .ok (.return_, 1) := by decide +kernel
set_option maxRecDepth 20000 in
theorem ggX8_closes_X8_outOf : GoodIn wsX8_closes wsX8_outOf := goodIn_g _ [(7, 3), (28, 47)] (by exact rfl) (by decide +kernel)
set_option maxRecDepth 20000 in
theorem gX8_closes_X8_outOf : GoodIn wsX8_closes (wsV RX8 289 RX8 yX8_outOf wsX8_outOf) := goodIn_app (goodIn_of _ (by decide +kernel)) ggX8_closes_X8_outOf
set_option maxRecDepth 20000 in
theorem ggX8_closes_X8_goesOn : GoodIn wsX8_closes wsX8_goesOn := goodIn_g _ [(13, 9), (6, 1), (22, 1), (2, 1), (23, 5), (9, 1), (8, 1), (28, 47)] (by exact rfl) (by decide +kernel)
set_option maxRecDepth 20000 in
theorem gX8_closes_X8_goesOn : GoodIn wsX8_closes (wsV RX8 292 RX8 yX8_goesOn wsX8_goesOn) := goodIn_app (goodIn_of _ (by decide +kernel)) ggX8_closes_X8_goesOn
theorem dX8_closes_0 : decode cX8_closes 0 = .ok (.iconst 1, 1) := by decide +kernel
theorem dX8_closes_1 : decode cX8_closes 1 = .ok (.istore 4, 2) := by decide +kernel
theorem dX8_closes_3 : decode cX8_closes 3 = .ok (.iload 4, 2) := by decide +kernel
theorem dX8_closes_5 : decode cX8_closes 5 = .ok (.ifCond .eq 96, 3) := by decide +kernel
theorem dX8_closes_8 : decode cX8_closes 8 = .ok (.iconst 0, 1) := by decide +kernel
theorem dX8_closes_9 : decode cX8_closes 9 = .ok (.istore 4, 2) := by decide +kernel
theorem dX8_closes_11 : decode cX8_closes 11 = .ok (.sipush 160, 3) := by decide +kernel
theorem dX8_closes_14 : decode cX8_closes 14 = .ok (.iload_n 1, 1) := by decide +kernel
theorem dX8_closes_15 : decode cX8_closes 15 = .ok (.imul, 1) := by decide +kernel
theorem dX8_closes_16 : decode cX8_closes 16 = .ok (.istore 5, 2) := by decide +kernel
theorem dX8_closes_18 : decode cX8_closes 18 = .ok (.iload 5, 2) := by decide +kernel
theorem dX8_closes_20 : decode cX8_closes 20 = .ok (.sipush 160, 3) := by decide +kernel
theorem dX8_closes_23 : decode cX8_closes 23 = .ok (.iload_n 1, 1) := by decide +kernel
theorem dX8_closes_24 : decode cX8_closes 24 = .ok (.imul, 1) := by decide +kernel
theorem dX8_closes_25 : decode cX8_closes 25 = .ok (.aload_n 0, 1) := by decide +kernel
theorem dX8_closes_26 : decode cX8_closes 26 = .ok (.getfield 19, 3) := by decide +kernel
theorem dX8_closes_29 : decode cX8_closes 29 = .ok (.iload_n 1, 1) := by decide +kernel
theorem dX8_closes_30 : decode cX8_closes 30 = .ok (.iaload, 1) := by decide +kernel
theorem dX8_closes_31 : decode cX8_closes 31 = .ok (.iadd, 1) := by decide +kernel
theorem dX8_closes_32 : decode cX8_closes 32 = .ok (.if_icmp .ge 66, 3) := by decide +kernel
theorem dX8_closes_35 : decode cX8_closes 35 = .ok (.iconst 0, 1) := by decide +kernel
theorem dX8_closes_36 : decode cX8_closes 36 = .ok (.istore 6, 2) := by decide +kernel
theorem dX8_closes_38 : decode cX8_closes 38 = .ok (.iload 6, 2) := by decide +kernel
theorem dX8_closes_40 : decode cX8_closes 40 = .ok (.aload_n 0, 1) := by decide +kernel
theorem dX8_closes_41 : decode cX8_closes 41 = .ok (.getfield 135, 3) := by decide +kernel
theorem dX8_closes_44 : decode cX8_closes 44 = .ok (.if_icmp .gt 48, 3) := by decide +kernel
theorem dX8_closes_47 : decode cX8_closes 47 = .ok (.aload_n 0, 1) := by decide +kernel
theorem dX8_closes_48 : decode cX8_closes 48 = .ok (.iload 5, 2) := by decide +kernel
theorem dX8_closes_50 : decode cX8_closes 50 = .ok (.iload_n 2, 1) := by decide +kernel
theorem dX8_closes_51 : decode cX8_closes 51 = .ok (.invokevirtual 289, 3) := by decide +kernel
theorem dX8_closes_54 : decode cX8_closes 54 = .ok (.bipush 8, 2) := by decide +kernel
theorem dX8_closes_56 : decode cX8_closes 56 = .ok (.if_icmp .ne 36, 3) := by decide +kernel
theorem dX8_closes_59 : decode cX8_closes 59 = .ok (.aload_n 0, 1) := by decide +kernel
theorem dX8_closes_60 : decode cX8_closes 60 = .ok (.iload_n 1, 1) := by decide +kernel
theorem dX8_closes_61 : decode cX8_closes 61 = .ok (.iload_n 2, 1) := by decide +kernel
theorem dX8_closes_62 : decode cX8_closes 62 = .ok (.iload_n 3, 1) := by decide +kernel
theorem dX8_closes_63 : decode cX8_closes 63 = .ok (.iload_n 3, 1) := by decide +kernel
theorem dX8_closes_64 : decode cX8_closes 64 = .ok (.iload 5, 2) := by decide +kernel
theorem dX8_closes_66 : decode cX8_closes 66 = .ok (.iload 6, 2) := by decide +kernel
theorem dX8_closes_68 : decode cX8_closes 68 = .ok (.invokevirtual 292, 3) := by decide +kernel
theorem dX8_closes_71 : decode cX8_closes 71 = .ok (.ifCond .ne 8, 3) := by decide +kernel
theorem dX8_closes_74 : decode cX8_closes 74 = .ok (.iload 4, 2) := by decide +kernel
theorem dX8_closes_76 : decode cX8_closes 76 = .ok (.ifCond .eq 7, 3) := by decide +kernel
theorem dX8_closes_79 : decode cX8_closes 79 = .ok (.iconst 1, 1) := by decide +kernel
theorem dX8_closes_80 : decode cX8_closes 80 = .ok (.goto 4, 3) := by decide +kernel
theorem dX8_closes_83 : decode cX8_closes 83 = .ok (.iconst 0, 1) := by decide +kernel
theorem dX8_closes_84 : decode cX8_closes 84 = .ok (.istore 4, 2) := by decide +kernel
theorem dX8_closes_86 : decode cX8_closes 86 = .ok (.iinc 6 1, 3) := by decide +kernel
theorem dX8_closes_89 : decode cX8_closes 89 = .ok (.goto (-51), 3) := by decide +kernel
theorem dX8_closes_92 : decode cX8_closes 92 = .ok (.iinc 5 1, 3) := by decide +kernel
theorem dX8_closes_95 : decode cX8_closes 95 = .ok (.goto (-77), 3) := by decide +kernel
theorem dX8_closes_98 : decode cX8_closes 98 = .ok (.goto (-95), 3) := by decide +kernel
theorem dX8_closes_101 : decode cX8_closes 101 = .ok (.return_, 1) := by decide +kernel
set_option maxRecDepth 20000 in
theorem ggX8_goesOn_X8_behind : GoodIn wsX8_goesOn wsX8_behind := goodIn_g _ [(10, 6), (9, 1), (16, 50)] (by exact rfl) (by decide +kernel)
set_option maxRecDepth 20000 in
theorem gX8_goesOn_X8_behind : GoodIn wsX8_goesOn (wsV RX8 285 RX8 yX8_behind wsX8_behind) := goodIn_app (goodIn_of _ (by decide +kernel)) ggX8_goesOn_X8_behind
theorem dX8_goesOn_0 : decode cX8_goesOn 0 = .ok (.aload_n 0, 1) := by decide +kernel
theorem dX8_goesOn_1 : decode cX8_goesOn 1 = .ok (.getfield 106, 3) := by decide +kernel
theorem dX8_goesOn_4 : decode cX8_goesOn 4 = .ok (.sipush 288, 3) := by decide +kernel
theorem dX8_goesOn_7 : decode cX8_goesOn 7 = .ok (.iload_n 3, 1) := by decide +kernel
theorem dX8_goesOn_8 : decode cX8_goesOn 8 = .ok (.imul, 1) := by decide +kernel
theorem dX8_goesOn_9 : decode cX8_goesOn 9 = .ok (.bipush 32, 2) := by decide +kernel
theorem dX8_goesOn_11 : decode cX8_goesOn 11 = .ok (.iload 6, 2) := by decide +kernel
theorem dX8_goesOn_13 : decode cX8_goesOn 13 = .ok (.imul, 1) := by decide +kernel
theorem dX8_goesOn_14 : decode cX8_goesOn 14 = .ok (.iadd, 1) := by decide +kernel
theorem dX8_goesOn_15 : decode cX8_goesOn 15 = .ok (.aload_n 0, 1) := by decide +kernel
theorem dX8_goesOn_16 : decode cX8_goesOn 16 = .ok (.getfield 22, 3) := by decide +kernel
theorem dX8_goesOn_19 : decode cX8_goesOn 19 = .ok (.iload 5, 2) := by decide +kernel
theorem dX8_goesOn_21 : decode cX8_goesOn 21 = .ok (.iaload, 1) := by decide +kernel
theorem dX8_goesOn_22 : decode cX8_goesOn 22 = .ok (.iadd, 1) := by decide +kernel
theorem dX8_goesOn_23 : decode cX8_goesOn 23 = .ok (.baload, 1) := by decide +kernel
theorem dX8_goesOn_24 : decode cX8_goesOn 24 = .ok (.ifCond .eq 15, 3) := by decide +kernel
theorem dX8_goesOn_27 : decode cX8_goesOn 27 = .ok (.aload_n 0, 1) := by decide +kernel
theorem dX8_goesOn_28 : decode cX8_goesOn 28 = .ok (.iload 5, 2) := by decide +kernel
theorem dX8_goesOn_30 : decode cX8_goesOn 30 = .ok (.iload 6, 2) := by decide +kernel
theorem dX8_goesOn_32 : decode cX8_goesOn 32 = .ok (.iload_n 2, 1) := by decide +kernel
theorem dX8_goesOn_33 : decode cX8_goesOn 33 = .ok (.invokevirtual 285, 3) := by decide +kernel
theorem dX8_goesOn_36 : decode cX8_goesOn 36 = .ok (.goto 4, 3) := by decide +kernel
theorem dX8_goesOn_39 : decode cX8_goesOn 39 = .ok (.iconst (-1), 1) := by decide +kernel
theorem dX8_goesOn_40 : decode cX8_goesOn 40 = .ok (.istore 7, 2) := by decide +kernel
theorem dX8_goesOn_42 : decode cX8_goesOn 42 = .ok (.iload 7, 2) := by decide +kernel
theorem dX8_goesOn_44 : decode cX8_goesOn 44 = .ok (.iconst (-1), 1) := by decide +kernel
theorem dX8_goesOn_45 : decode cX8_goesOn 45 = .ok (.if_icmp .eq 59, 3) := by decide +kernel
theorem dX8_goesOn_48 : decode cX8_goesOn 48 = .ok (.aload_n 0, 1) := by decide +kernel
theorem dX8_goesOn_49 : decode cX8_goesOn 49 = .ok (.getfield 96, 3) := by decide +kernel
theorem dX8_goesOn_52 : decode cX8_goesOn 52 = .ok (.bipush 32, 2) := by decide +kernel
theorem dX8_goesOn_54 : decode cX8_goesOn 54 = .ok (.iload 7, 2) := by decide +kernel
theorem dX8_goesOn_56 : decode cX8_goesOn 56 = .ok (.imul, 1) := by decide +kernel
theorem dX8_goesOn_57 : decode cX8_goesOn 57 = .ok (.aload_n 0, 1) := by decide +kernel
theorem dX8_goesOn_58 : decode cX8_goesOn 58 = .ok (.getfield 34, 3) := by decide +kernel
theorem dX8_goesOn_61 : decode cX8_goesOn 61 = .ok (.iload 5, 2) := by decide +kernel
theorem dX8_goesOn_63 : decode cX8_goesOn 63 = .ok (.iaload, 1) := by decide +kernel
theorem dX8_goesOn_64 : decode cX8_goesOn 64 = .ok (.iadd, 1) := by decide +kernel
theorem dX8_goesOn_65 : decode cX8_goesOn 65 = .ok (.iaload, 1) := by decide +kernel
theorem dX8_goesOn_66 : decode cX8_goesOn 66 = .ok (.ldc_w 284, 3) := by decide +kernel
theorem dX8_goesOn_69 : decode cX8_goesOn 69 = .ok (.if_icmp .eq 35, 3) := by decide +kernel
theorem dX8_goesOn_72 : decode cX8_goesOn 72 = .ok (.aload_n 0, 1) := by decide +kernel
theorem dX8_goesOn_73 : decode cX8_goesOn 73 = .ok (.getfield 106, 3) := by decide +kernel
theorem dX8_goesOn_76 : decode cX8_goesOn 76 = .ok (.sipush 288, 3) := by decide +kernel
theorem dX8_goesOn_79 : decode cX8_goesOn 79 = .ok (.iload 4, 2) := by decide +kernel
theorem dX8_goesOn_81 : decode cX8_goesOn 81 = .ok (.imul, 1) := by decide +kernel
theorem dX8_goesOn_82 : decode cX8_goesOn 82 = .ok (.bipush 32, 2) := by decide +kernel
theorem dX8_goesOn_84 : decode cX8_goesOn 84 = .ok (.iload 7, 2) := by decide +kernel
theorem dX8_goesOn_86 : decode cX8_goesOn 86 = .ok (.imul, 1) := by decide +kernel
theorem dX8_goesOn_87 : decode cX8_goesOn 87 = .ok (.iadd, 1) := by decide +kernel
theorem dX8_goesOn_88 : decode cX8_goesOn 88 = .ok (.aload_n 0, 1) := by decide +kernel
theorem dX8_goesOn_89 : decode cX8_goesOn 89 = .ok (.getfield 34, 3) := by decide +kernel
theorem dX8_goesOn_92 : decode cX8_goesOn 92 = .ok (.iload 5, 2) := by decide +kernel
theorem dX8_goesOn_94 : decode cX8_goesOn 94 = .ok (.iaload, 1) := by decide +kernel
theorem dX8_goesOn_95 : decode cX8_goesOn 95 = .ok (.iadd, 1) := by decide +kernel
theorem dX8_goesOn_96 : decode cX8_goesOn 96 = .ok (.baload, 1) := by decide +kernel
theorem dX8_goesOn_97 : decode cX8_goesOn 97 = .ok (.ifCond .ne 7, 3) := by decide +kernel
theorem dX8_goesOn_100 : decode cX8_goesOn 100 = .ok (.iconst 1, 1) := by decide +kernel
theorem dX8_goesOn_101 : decode cX8_goesOn 101 = .ok (.goto 4, 3) := by decide +kernel
theorem dX8_goesOn_104 : decode cX8_goesOn 104 = .ok (.iconst 0, 1) := by decide +kernel
theorem dX8_goesOn_105 : decode cX8_goesOn 105 = .ok (.istore 8, 2) := by decide +kernel
theorem dX8_goesOn_107 : decode cX8_goesOn 107 = .ok (.iload 8, 2) := by decide +kernel
theorem dX8_goesOn_109 : decode cX8_goesOn 109 = .ok (.ifCond .eq 29, 3) := by decide +kernel
theorem dX8_goesOn_112 : decode cX8_goesOn 112 = .ok (.aload_n 0, 1) := by decide +kernel
theorem dX8_goesOn_113 : decode cX8_goesOn 113 = .ok (.getfield 106, 3) := by decide +kernel
theorem dX8_goesOn_116 : decode cX8_goesOn 116 = .ok (.sipush 288, 3) := by decide +kernel
theorem dX8_goesOn_119 : decode cX8_goesOn 119 = .ok (.iload 4, 2) := by decide +kernel
theorem dX8_goesOn_121 : decode cX8_goesOn 121 = .ok (.imul, 1) := by decide +kernel
theorem dX8_goesOn_122 : decode cX8_goesOn 122 = .ok (.bipush 32, 2) := by decide +kernel
theorem dX8_goesOn_124 : decode cX8_goesOn 124 = .ok (.iload 7, 2) := by decide +kernel
theorem dX8_goesOn_126 : decode cX8_goesOn 126 = .ok (.imul, 1) := by decide +kernel
theorem dX8_goesOn_127 : decode cX8_goesOn 127 = .ok (.iadd, 1) := by decide +kernel
theorem dX8_goesOn_128 : decode cX8_goesOn 128 = .ok (.aload_n 0, 1) := by decide +kernel
theorem dX8_goesOn_129 : decode cX8_goesOn 129 = .ok (.getfield 34, 3) := by decide +kernel
theorem dX8_goesOn_132 : decode cX8_goesOn 132 = .ok (.iload 5, 2) := by decide +kernel
theorem dX8_goesOn_134 : decode cX8_goesOn 134 = .ok (.iaload, 1) := by decide +kernel
theorem dX8_goesOn_135 : decode cX8_goesOn 135 = .ok (.iadd, 1) := by decide +kernel
theorem dX8_goesOn_136 : decode cX8_goesOn 136 = .ok (.iconst 1, 1) := by decide +kernel
theorem dX8_goesOn_137 : decode cX8_goesOn 137 = .ok (.bastore, 1) := by decide +kernel
theorem dX8_goesOn_138 : decode cX8_goesOn 138 = .ok (.iload 8, 2) := by decide +kernel
theorem dX8_goesOn_140 : decode cX8_goesOn 140 = .ok (.ireturn, 1) := by decide +kernel
theorem dX8_empties_0 : decode cX8_empties 0 = .ok (.iconst 0, 1) := by decide +kernel
theorem dX8_empties_1 : decode cX8_empties 1 = .ok (.istore_n 2, 1) := by decide +kernel
theorem dX8_empties_2 : decode cX8_empties 2 = .ok (.iload_n 2, 1) := by decide +kernel
theorem dX8_empties_3 : decode cX8_empties 3 = .ok (.sipush 288, 3) := by decide +kernel
theorem dX8_empties_6 : decode cX8_empties 6 = .ok (.if_icmp .ge 22, 3) := by decide +kernel
theorem dX8_empties_9 : decode cX8_empties 9 = .ok (.aload_n 0, 1) := by decide +kernel
theorem dX8_empties_10 : decode cX8_empties 10 = .ok (.getfield 106, 3) := by decide +kernel
theorem dX8_empties_13 : decode cX8_empties 13 = .ok (.sipush 288, 3) := by decide +kernel
theorem dX8_empties_16 : decode cX8_empties 16 = .ok (.iload_n 1, 1) := by decide +kernel
theorem dX8_empties_17 : decode cX8_empties 17 = .ok (.imul, 1) := by decide +kernel
theorem dX8_empties_18 : decode cX8_empties 18 = .ok (.iload_n 2, 1) := by decide +kernel
theorem dX8_empties_19 : decode cX8_empties 19 = .ok (.iadd, 1) := by decide +kernel
theorem dX8_empties_20 : decode cX8_empties 20 = .ok (.iconst 0, 1) := by decide +kernel
theorem dX8_empties_21 : decode cX8_empties 21 = .ok (.bastore, 1) := by decide +kernel
theorem dX8_empties_22 : decode cX8_empties 22 = .ok (.iinc 2 1, 3) := by decide +kernel
theorem dX8_empties_25 : decode cX8_empties 25 = .ok (.goto (-23), 3) := by decide +kernel
theorem dX8_empties_28 : decode cX8_empties 28 = .ok (.return_, 1) := by decide +kernel
set_option maxRecDepth 20000 in
theorem ggX8_goesBy_X8_empties : GoodIn wsX8_goesBy wsX8_empties := goodIn_g _ [(7, 2), (36, 47)] (by exact rfl) (by decide +kernel)
set_option maxRecDepth 20000 in
theorem gX8_goesBy_X8_empties : GoodIn wsX8_goesBy (wsV RX8 296 RX8 yX8_empties wsX8_empties) := goodIn_app (goodIn_of _ (by decide +kernel)) ggX8_goesBy_X8_empties
set_option maxRecDepth 20000 in
theorem ggX8_goesBy_X8_outOf : GoodIn wsX8_goesBy wsX8_outOf := goodIn_g _ [(12, 3), (36, 47)] (by exact rfl) (by decide +kernel)
set_option maxRecDepth 20000 in
theorem gX8_goesBy_X8_outOf : GoodIn wsX8_goesBy (wsV RX8 289 RX8 yX8_outOf wsX8_outOf) := goodIn_app (goodIn_of _ (by decide +kernel)) ggX8_goesBy_X8_outOf
set_option maxRecDepth 20000 in
theorem ggX8_goesBy_X8_goesOn : GoodIn wsX8_goesBy wsX8_goesOn := goodIn_g _ [(18, 1), (8, 1), (19, 7), (6, 1), (26, 1), (2, 1), (27, 5), (14, 1), (13, 1), (36, 47)] (by exact rfl) (by decide +kernel)
set_option maxRecDepth 20000 in
theorem gX8_goesBy_X8_goesOn : GoodIn wsX8_goesBy (wsV RX8 292 RX8 yX8_goesOn wsX8_goesOn) := goodIn_app (goodIn_of _ (by decide +kernel)) ggX8_goesBy_X8_goesOn
set_option maxRecDepth 20000 in
theorem ggX8_goesBy_X8_closes : GoodIn wsX8_goesBy wsX8_closes := goodIn_g _ [(35, 1), (1, 2), (9, 3), (6, 1), (12, 7), (8, 1), (19, 13), (36, 47)] (by exact rfl) (by decide +kernel)
set_option maxRecDepth 20000 in
theorem gX8_goesBy_X8_closes : GoodIn wsX8_goesBy (wsV RX8 299 RX8 yX8_closes wsX8_closes) := goodIn_app (goodIn_of _ (by decide +kernel)) ggX8_goesBy_X8_closes
theorem dX8_goesBy_0 : decode cX8_goesBy 0 = .ok (.aload_n 0, 1) := by decide +kernel
theorem dX8_goesBy_1 : decode cX8_goesBy 1 = .ok (.iload_n 3, 1) := by decide +kernel
theorem dX8_goesBy_2 : decode cX8_goesBy 2 = .ok (.iconst 1, 1) := by decide +kernel
theorem dX8_goesBy_3 : decode cX8_goesBy 3 = .ok (.iadd, 1) := by decide +kernel
theorem dX8_goesBy_4 : decode cX8_goesBy 4 = .ok (.invokevirtual 296, 3) := by decide +kernel
theorem dX8_goesBy_7 : decode cX8_goesBy 7 = .ok (.iconst 0, 1) := by decide +kernel
theorem dX8_goesBy_8 : decode cX8_goesBy 8 = .ok (.istore 5, 2) := by decide +kernel
theorem dX8_goesBy_10 : decode cX8_goesBy 10 = .ok (.sipush 160, 3) := by decide +kernel
theorem dX8_goesBy_13 : decode cX8_goesBy 13 = .ok (.iload_n 1, 1) := by decide +kernel
theorem dX8_goesBy_14 : decode cX8_goesBy 14 = .ok (.imul, 1) := by decide +kernel
theorem dX8_goesBy_15 : decode cX8_goesBy 15 = .ok (.istore 6, 2) := by decide +kernel
theorem dX8_goesBy_17 : decode cX8_goesBy 17 = .ok (.iload 6, 2) := by decide +kernel
theorem dX8_goesBy_19 : decode cX8_goesBy 19 = .ok (.sipush 160, 3) := by decide +kernel
theorem dX8_goesBy_22 : decode cX8_goesBy 22 = .ok (.iload_n 1, 1) := by decide +kernel
theorem dX8_goesBy_23 : decode cX8_goesBy 23 = .ok (.imul, 1) := by decide +kernel
theorem dX8_goesBy_24 : decode cX8_goesBy 24 = .ok (.aload_n 0, 1) := by decide +kernel
theorem dX8_goesBy_25 : decode cX8_goesBy 25 = .ok (.getfield 19, 3) := by decide +kernel
theorem dX8_goesBy_28 : decode cX8_goesBy 28 = .ok (.iload_n 1, 1) := by decide +kernel
theorem dX8_goesBy_29 : decode cX8_goesBy 29 = .ok (.iaload, 1) := by decide +kernel
theorem dX8_goesBy_30 : decode cX8_goesBy 30 = .ok (.iadd, 1) := by decide +kernel
theorem dX8_goesBy_31 : decode cX8_goesBy 31 = .ok (.if_icmp .ge 68, 3) := by decide +kernel
theorem dX8_goesBy_34 : decode cX8_goesBy 34 = .ok (.iconst 0, 1) := by decide +kernel
theorem dX8_goesBy_35 : decode cX8_goesBy 35 = .ok (.istore 7, 2) := by decide +kernel
theorem dX8_goesBy_37 : decode cX8_goesBy 37 = .ok (.iload 7, 2) := by decide +kernel
theorem dX8_goesBy_39 : decode cX8_goesBy 39 = .ok (.aload_n 0, 1) := by decide +kernel
theorem dX8_goesBy_40 : decode cX8_goesBy 40 = .ok (.getfield 135, 3) := by decide +kernel
theorem dX8_goesBy_43 : decode cX8_goesBy 43 = .ok (.if_icmp .gt 50, 3) := by decide +kernel
theorem dX8_goesBy_46 : decode cX8_goesBy 46 = .ok (.aload_n 0, 1) := by decide +kernel
theorem dX8_goesBy_47 : decode cX8_goesBy 47 = .ok (.iload 6, 2) := by decide +kernel
theorem dX8_goesBy_49 : decode cX8_goesBy 49 = .ok (.iload_n 2, 1) := by decide +kernel
theorem dX8_goesBy_50 : decode cX8_goesBy 50 = .ok (.invokevirtual 289, 3) := by decide +kernel
theorem dX8_goesBy_53 : decode cX8_goesBy 53 = .ok (.iload 4, 2) := by decide +kernel
theorem dX8_goesBy_55 : decode cX8_goesBy 55 = .ok (.if_icmp .ne 38, 3) := by decide +kernel
theorem dX8_goesBy_58 : decode cX8_goesBy 58 = .ok (.aload_n 0, 1) := by decide +kernel
theorem dX8_goesBy_59 : decode cX8_goesBy 59 = .ok (.iload_n 1, 1) := by decide +kernel
theorem dX8_goesBy_60 : decode cX8_goesBy 60 = .ok (.iload_n 2, 1) := by decide +kernel
theorem dX8_goesBy_61 : decode cX8_goesBy 61 = .ok (.iload_n 3, 1) := by decide +kernel
theorem dX8_goesBy_62 : decode cX8_goesBy 62 = .ok (.iload_n 3, 1) := by decide +kernel
theorem dX8_goesBy_63 : decode cX8_goesBy 63 = .ok (.iconst 1, 1) := by decide +kernel
theorem dX8_goesBy_64 : decode cX8_goesBy 64 = .ok (.iadd, 1) := by decide +kernel
theorem dX8_goesBy_65 : decode cX8_goesBy 65 = .ok (.iload 6, 2) := by decide +kernel
theorem dX8_goesBy_67 : decode cX8_goesBy 67 = .ok (.iload 7, 2) := by decide +kernel
theorem dX8_goesBy_69 : decode cX8_goesBy 69 = .ok (.invokevirtual 292, 3) := by decide +kernel
theorem dX8_goesBy_72 : decode cX8_goesBy 72 = .ok (.ifCond .ne 8, 3) := by decide +kernel
theorem dX8_goesBy_75 : decode cX8_goesBy 75 = .ok (.iload 5, 2) := by decide +kernel
theorem dX8_goesBy_77 : decode cX8_goesBy 77 = .ok (.ifCond .eq 7, 3) := by decide +kernel
theorem dX8_goesBy_80 : decode cX8_goesBy 80 = .ok (.iconst 1, 1) := by decide +kernel
theorem dX8_goesBy_81 : decode cX8_goesBy 81 = .ok (.goto 4, 3) := by decide +kernel
theorem dX8_goesBy_84 : decode cX8_goesBy 84 = .ok (.iconst 0, 1) := by decide +kernel
theorem dX8_goesBy_85 : decode cX8_goesBy 85 = .ok (.istore 5, 2) := by decide +kernel
theorem dX8_goesBy_87 : decode cX8_goesBy 87 = .ok (.iinc 7 1, 3) := by decide +kernel
theorem dX8_goesBy_90 : decode cX8_goesBy 90 = .ok (.goto (-53), 3) := by decide +kernel
theorem dX8_goesBy_93 : decode cX8_goesBy 93 = .ok (.iinc 6 1, 3) := by decide +kernel
theorem dX8_goesBy_96 : decode cX8_goesBy 96 = .ok (.goto (-79), 3) := by decide +kernel
theorem dX8_goesBy_99 : decode cX8_goesBy 99 = .ok (.iload 5, 2) := by decide +kernel
theorem dX8_goesBy_101 : decode cX8_goesBy 101 = .ok (.ifCond .eq 12, 3) := by decide +kernel
theorem dX8_goesBy_104 : decode cX8_goesBy 104 = .ok (.aload_n 0, 1) := by decide +kernel
theorem dX8_goesBy_105 : decode cX8_goesBy 105 = .ok (.iload_n 1, 1) := by decide +kernel
theorem dX8_goesBy_106 : decode cX8_goesBy 106 = .ok (.iload_n 2, 1) := by decide +kernel
theorem dX8_goesBy_107 : decode cX8_goesBy 107 = .ok (.iload_n 3, 1) := by decide +kernel
theorem dX8_goesBy_108 : decode cX8_goesBy 108 = .ok (.iconst 1, 1) := by decide +kernel
theorem dX8_goesBy_109 : decode cX8_goesBy 109 = .ok (.iadd, 1) := by decide +kernel
theorem dX8_goesBy_110 : decode cX8_goesBy 110 = .ok (.invokevirtual 299, 3) := by decide +kernel
theorem dX8_goesBy_113 : decode cX8_goesBy 113 = .ok (.iload 5, 2) := by decide +kernel
theorem dX8_goesBy_115 : decode cX8_goesBy 115 = .ok (.ireturn, 1) := by decide +kernel
set_option maxRecDepth 20000 in
theorem ggX8_isAnswer_X8_isEndOf : GoodIn wsX8_isAnswer wsX8_isEndOf := goodIn_g _ [(8, 49)] (by exact rfl) (by decide +kernel)
set_option maxRecDepth 20000 in
theorem gX8_isAnswer_X8_isEndOf : GoodIn wsX8_isAnswer (wsV RX8 201 RX8 yX8_isEndOf wsX8_isEndOf) := goodIn_app (goodIn_of _ (by decide +kernel)) ggX8_isAnswer_X8_isEndOf
theorem dX8_isAnswer_0 : decode cX8_isAnswer 0 = .ok (.iconst 0, 1) := by decide +kernel
theorem dX8_isAnswer_1 : decode cX8_isAnswer 1 = .ok (.istore_n 3, 1) := by decide +kernel
theorem dX8_isAnswer_2 : decode cX8_isAnswer 2 = .ok (.iconst 0, 1) := by decide +kernel
theorem dX8_isAnswer_3 : decode cX8_isAnswer 3 = .ok (.istore 4, 2) := by decide +kernel
theorem dX8_isAnswer_5 : decode cX8_isAnswer 5 = .ok (.iload 4, 2) := by decide +kernel
theorem dX8_isAnswer_7 : decode cX8_isAnswer 7 = .ok (.aload_n 0, 1) := by decide +kernel
theorem dX8_isAnswer_8 : decode cX8_isAnswer 8 = .ok (.getfield 13, 3) := by decide +kernel
theorem dX8_isAnswer_11 : decode cX8_isAnswer 11 = .ok (.iload_n 1, 1) := by decide +kernel
theorem dX8_isAnswer_12 : decode cX8_isAnswer 12 = .ok (.iaload, 1) := by decide +kernel
theorem dX8_isAnswer_13 : decode cX8_isAnswer 13 = .ok (.if_icmp .ge 53, 3) := by decide +kernel
theorem dX8_isAnswer_16 : decode cX8_isAnswer 16 = .ok (.iload_n 3, 1) := by decide +kernel
theorem dX8_isAnswer_17 : decode cX8_isAnswer 17 = .ok (.ifCond .ne 37, 3) := by decide +kernel
theorem dX8_isAnswer_20 : decode cX8_isAnswer 20 = .ok (.aload_n 0, 1) := by decide +kernel
theorem dX8_isAnswer_21 : decode cX8_isAnswer 21 = .ok (.getfield 106, 3) := by decide +kernel
theorem dX8_isAnswer_24 : decode cX8_isAnswer 24 = .ok (.sipush 288, 3) := by decide +kernel
theorem dX8_isAnswer_27 : decode cX8_isAnswer 27 = .ok (.iload_n 2, 1) := by decide +kernel
theorem dX8_isAnswer_28 : decode cX8_isAnswer 28 = .ok (.imul, 1) := by decide +kernel
theorem dX8_isAnswer_29 : decode cX8_isAnswer 29 = .ok (.bipush 32, 2) := by decide +kernel
theorem dX8_isAnswer_31 : decode cX8_isAnswer 31 = .ok (.aload_n 0, 1) := by decide +kernel
theorem dX8_isAnswer_32 : decode cX8_isAnswer 32 = .ok (.getfield 135, 3) := by decide +kernel
theorem dX8_isAnswer_35 : decode cX8_isAnswer 35 = .ok (.imul, 1) := by decide +kernel
theorem dX8_isAnswer_36 : decode cX8_isAnswer 36 = .ok (.iadd, 1) := by decide +kernel
theorem dX8_isAnswer_37 : decode cX8_isAnswer 37 = .ok (.iload 4, 2) := by decide +kernel
theorem dX8_isAnswer_39 : decode cX8_isAnswer 39 = .ok (.iadd, 1) := by decide +kernel
theorem dX8_isAnswer_40 : decode cX8_isAnswer 40 = .ok (.baload, 1) := by decide +kernel
theorem dX8_isAnswer_41 : decode cX8_isAnswer 41 = .ok (.ifCond .eq 17, 3) := by decide +kernel
theorem dX8_isAnswer_44 : decode cX8_isAnswer 44 = .ok (.aload_n 0, 1) := by decide +kernel
theorem dX8_isAnswer_45 : decode cX8_isAnswer 45 = .ok (.iload_n 1, 1) := by decide +kernel
theorem dX8_isAnswer_46 : decode cX8_isAnswer 46 = .ok (.iload 4, 2) := by decide +kernel
theorem dX8_isAnswer_48 : decode cX8_isAnswer 48 = .ok (.invokevirtual 201, 3) := by decide +kernel
theorem dX8_isAnswer_51 : decode cX8_isAnswer 51 = .ok (.ifCond .eq 7, 3) := by decide +kernel
theorem dX8_isAnswer_54 : decode cX8_isAnswer 54 = .ok (.iconst 1, 1) := by decide +kernel
theorem dX8_isAnswer_55 : decode cX8_isAnswer 55 = .ok (.goto 4, 3) := by decide +kernel
theorem dX8_isAnswer_58 : decode cX8_isAnswer 58 = .ok (.iconst 0, 1) := by decide +kernel
theorem dX8_isAnswer_59 : decode cX8_isAnswer 59 = .ok (.istore_n 3, 1) := by decide +kernel
theorem dX8_isAnswer_60 : decode cX8_isAnswer 60 = .ok (.iinc 4 1, 3) := by decide +kernel
theorem dX8_isAnswer_63 : decode cX8_isAnswer 63 = .ok (.goto (-58), 3) := by decide +kernel
theorem dX8_isAnswer_66 : decode cX8_isAnswer 66 = .ok (.iload_n 3, 1) := by decide +kernel
theorem dX8_isAnswer_67 : decode cX8_isAnswer 67 = .ok (.ireturn, 1) := by decide +kernel
set_option maxRecDepth 20000 in
theorem ggX8_answersTo_X8_rests : GoodIn wsX8_answersTo wsX8_rests := goodIn_g _ [(11, 1), (1, 1), (12, 1), (2, 1), (13, 7), (10, 1), (20, 13), (58, 47)] (by exact rfl) (by decide +kernel)
set_option maxRecDepth 20000 in
theorem gX8_answersTo_X8_rests : GoodIn wsX8_answersTo (wsV RX8 303 RX8 yX8_rests wsX8_rests) := goodIn_app (goodIn_of _ (by decide +kernel)) ggX8_answersTo_X8_rests
set_option maxRecDepth 20000 in
theorem ggX8_answersTo_X8_empties : GoodIn wsX8_answersTo wsX8_empties := goodIn_g _ [(36, 1), (3, 1), (58, 47)] (by exact rfl) (by decide +kernel)
set_option maxRecDepth 20000 in
theorem gX8_answersTo_X8_empties : GoodIn wsX8_answersTo (wsV RX8 296 RX8 yX8_empties wsX8_empties) := goodIn_app (goodIn_of _ (by decide +kernel)) ggX8_answersTo_X8_empties
set_option maxRecDepth 20000 in
theorem ggX8_answersTo_X8_closes : GoodIn wsX8_answersTo wsX8_closes := goodIn_g _ [(40, 1), (13, 1), (12, 1), (41, 3), (10, 1), (44, 1), (32, 1), (31, 1), (45, 4), (3, 1), (16, 1), (1, 1), (14, 1), (2, 1), (22, 9), (58, 47)] (by exact rfl) (by decide +kernel)
set_option maxRecDepth 20000 in
theorem gX8_answersTo_X8_closes : GoodIn wsX8_answersTo (wsV RX8 299 RX8 yX8_closes wsX8_closes) := goodIn_app (goodIn_of _ (by decide +kernel)) ggX8_answersTo_X8_closes
set_option maxRecDepth 20000 in
theorem ggX8_answersTo_X8_isAnswer : GoodIn wsX8_answersTo wsX8_isAnswer := goodIn_g _ [(52, 2), (3, 1), (12, 1), (17, 3), (10, 1), (20, 2), (58, 47)] (by exact rfl) (by decide +kernel)
set_option maxRecDepth 20000 in
theorem gX8_answersTo_X8_isAnswer : GoodIn wsX8_answersTo (wsV RX8 307 RX8 yX8_isAnswer wsX8_isAnswer) := goodIn_app (goodIn_of _ (by decide +kernel)) ggX8_answersTo_X8_isAnswer
set_option maxRecDepth 20000 in
theorem ggX8_answersTo_X8_goesBy : GoodIn wsX8_answersTo wsX8_goesBy := goodIn_g _ [(57, 1), (13, 1), (12, 1), (33, 3), (10, 1), (36, 1), (3, 1), (41, 4), (32, 1), (31, 1), (45, 4), (16, 1), (1, 1), (14, 1), (2, 1), (22, 9), (37, 4), (58, 47)] (by exact rfl) (by decide +kernel)
set_option maxRecDepth 20000 in
theorem gX8_answersTo_X8_goesBy : GoodIn wsX8_answersTo (wsV RX8 310 RX8 yX8_goesBy wsX8_goesBy) := goodIn_app (goodIn_of _ (by decide +kernel)) ggX8_answersTo_X8_goesBy
theorem dX8_answersTo_0 : decode cX8_answersTo 0 = .ok (.aload_n 0, 1) := by decide +kernel
theorem dX8_answersTo_1 : decode cX8_answersTo 1 = .ok (.iload_n 1, 1) := by decide +kernel
theorem dX8_answersTo_2 : decode cX8_answersTo 2 = .ok (.iload_n 2, 1) := by decide +kernel
theorem dX8_answersTo_3 : decode cX8_answersTo 3 = .ok (.invokevirtual 303, 3) := by decide +kernel
theorem dX8_answersTo_6 : decode cX8_answersTo 6 = .ok (.aload_n 0, 1) := by decide +kernel
theorem dX8_answersTo_7 : decode cX8_answersTo 7 = .ok (.getfield 96, 3) := by decide +kernel
theorem dX8_answersTo_10 : decode cX8_answersTo 10 = .ok (.iconst 0, 1) := by decide +kernel
theorem dX8_answersTo_11 : decode cX8_answersTo 11 = .ok (.iaload, 1) := by decide +kernel
theorem dX8_answersTo_12 : decode cX8_answersTo 12 = .ok (.ldc_w 284, 3) := by decide +kernel
theorem dX8_answersTo_15 : decode cX8_answersTo 15 = .ok (.if_icmp .ne 5, 3) := by decide +kernel
theorem dX8_answersTo_18 : decode cX8_answersTo 18 = .ok (.iconst 0, 1) := by decide +kernel
theorem dX8_answersTo_19 : decode cX8_answersTo 19 = .ok (.ireturn, 1) := by decide +kernel
theorem dX8_answersTo_20 : decode cX8_answersTo 20 = .ok (.aload_n 0, 1) := by decide +kernel
theorem dX8_answersTo_21 : decode cX8_answersTo 21 = .ok (.iconst 0, 1) := by decide +kernel
theorem dX8_answersTo_22 : decode cX8_answersTo 22 = .ok (.invokevirtual 296, 3) := by decide +kernel
theorem dX8_answersTo_25 : decode cX8_answersTo 25 = .ok (.aload_n 0, 1) := by decide +kernel
theorem dX8_answersTo_26 : decode cX8_answersTo 26 = .ok (.getfield 106, 3) := by decide +kernel
theorem dX8_answersTo_29 : decode cX8_answersTo 29 = .ok (.iconst 0, 1) := by decide +kernel
theorem dX8_answersTo_30 : decode cX8_answersTo 30 = .ok (.iconst 1, 1) := by decide +kernel
theorem dX8_answersTo_31 : decode cX8_answersTo 31 = .ok (.bastore, 1) := by decide +kernel
theorem dX8_answersTo_32 : decode cX8_answersTo 32 = .ok (.aload_n 0, 1) := by decide +kernel
theorem dX8_answersTo_33 : decode cX8_answersTo 33 = .ok (.iload_n 1, 1) := by decide +kernel
theorem dX8_answersTo_34 : decode cX8_answersTo 34 = .ok (.iload_n 2, 1) := by decide +kernel
theorem dX8_answersTo_35 : decode cX8_answersTo 35 = .ok (.iconst 0, 1) := by decide +kernel
theorem dX8_answersTo_36 : decode cX8_answersTo 36 = .ok (.invokevirtual 299, 3) := by decide +kernel
theorem dX8_answersTo_39 : decode cX8_answersTo 39 = .ok (.iconst 0, 1) := by decide +kernel
theorem dX8_answersTo_40 : decode cX8_answersTo 40 = .ok (.istore 4, 2) := by decide +kernel
theorem dX8_answersTo_42 : decode cX8_answersTo 42 = .ok (.aload_n 0, 1) := by decide +kernel
theorem dX8_answersTo_43 : decode cX8_answersTo 43 = .ok (.getfield 109, 3) := by decide +kernel
theorem dX8_answersTo_46 : decode cX8_answersTo 46 = .ok (.iconst 0, 1) := by decide +kernel
theorem dX8_answersTo_47 : decode cX8_answersTo 47 = .ok (.iconst (-1), 1) := by decide +kernel
theorem dX8_answersTo_48 : decode cX8_answersTo 48 = .ok (.iastore, 1) := by decide +kernel
theorem dX8_answersTo_49 : decode cX8_answersTo 49 = .ok (.aload_n 0, 1) := by decide +kernel
theorem dX8_answersTo_50 : decode cX8_answersTo 50 = .ok (.iload_n 1, 1) := by decide +kernel
theorem dX8_answersTo_51 : decode cX8_answersTo 51 = .ok (.iconst 0, 1) := by decide +kernel
theorem dX8_answersTo_52 : decode cX8_answersTo 52 = .ok (.invokevirtual 307, 3) := by decide +kernel
theorem dX8_answersTo_55 : decode cX8_answersTo 55 = .ok (.ifCond .eq 7, 3) := by decide +kernel
theorem dX8_answersTo_58 : decode cX8_answersTo 58 = .ok (.iconst 1, 1) := by decide +kernel
theorem dX8_answersTo_59 : decode cX8_answersTo 59 = .ok (.goto 4, 3) := by decide +kernel
theorem dX8_answersTo_62 : decode cX8_answersTo 62 = .ok (.iconst 0, 1) := by decide +kernel
theorem dX8_answersTo_63 : decode cX8_answersTo 63 = .ok (.istore 5, 2) := by decide +kernel
theorem dX8_answersTo_65 : decode cX8_answersTo 65 = .ok (.iload 5, 2) := by decide +kernel
theorem dX8_answersTo_67 : decode cX8_answersTo 67 = .ok (.iload_n 3, 1) := by decide +kernel
theorem dX8_answersTo_68 : decode cX8_answersTo 68 = .ok (.if_icmp .gt 103, 3) := by decide +kernel
theorem dX8_answersTo_71 : decode cX8_answersTo 71 = .ok (.iload 4, 2) := by decide +kernel
theorem dX8_answersTo_73 : decode cX8_answersTo 73 = .ok (.ifCond .lt 98, 3) := by decide +kernel
theorem dX8_answersTo_76 : decode cX8_answersTo 76 = .ok (.aload_n 0, 1) := by decide +kernel
theorem dX8_answersTo_77 : decode cX8_answersTo 77 = .ok (.getfield 109, 3) := by decide +kernel
theorem dX8_answersTo_80 : decode cX8_answersTo 80 = .ok (.iload 4, 2) := by decide +kernel
theorem dX8_answersTo_82 : decode cX8_answersTo 82 = .ok (.dup2, 1) := by decide +kernel
theorem dX8_answersTo_83 : decode cX8_answersTo 83 = .ok (.iaload, 1) := by decide +kernel
theorem dX8_answersTo_84 : decode cX8_answersTo 84 = .ok (.iconst 1, 1) := by decide +kernel
theorem dX8_answersTo_85 : decode cX8_answersTo 85 = .ok (.iadd, 1) := by decide +kernel
theorem dX8_answersTo_86 : decode cX8_answersTo 86 = .ok (.iastore, 1) := by decide +kernel
theorem dX8_answersTo_87 : decode cX8_answersTo 87 = .ok (.aload_n 0, 1) := by decide +kernel
theorem dX8_answersTo_88 : decode cX8_answersTo 88 = .ok (.getfield 109, 3) := by decide +kernel
theorem dX8_answersTo_91 : decode cX8_answersTo 91 = .ok (.iload 4, 2) := by decide +kernel
theorem dX8_answersTo_93 : decode cX8_answersTo 93 = .ok (.iaload, 1) := by decide +kernel
theorem dX8_answersTo_94 : decode cX8_answersTo 94 = .ok (.bipush 8, 2) := by decide +kernel
theorem dX8_answersTo_96 : decode cX8_answersTo 96 = .ok (.if_icmp .ne 9, 3) := by decide +kernel
theorem dX8_answersTo_99 : decode cX8_answersTo 99 = .ok (.iinc 4 (-1), 3) := by decide +kernel
theorem dX8_answersTo_102 : decode cX8_answersTo 102 = .ok (.goto (-37), 3) := by decide +kernel
theorem dX8_answersTo_105 : decode cX8_answersTo 105 = .ok (.aload_n 0, 1) := by decide +kernel
theorem dX8_answersTo_106 : decode cX8_answersTo 106 = .ok (.iload_n 1, 1) := by decide +kernel
theorem dX8_answersTo_107 : decode cX8_answersTo 107 = .ok (.iload_n 2, 1) := by decide +kernel
theorem dX8_answersTo_108 : decode cX8_answersTo 108 = .ok (.iload 4, 2) := by decide +kernel
theorem dX8_answersTo_110 : decode cX8_answersTo 110 = .ok (.aload_n 0, 1) := by decide +kernel
theorem dX8_answersTo_111 : decode cX8_answersTo 111 = .ok (.getfield 109, 3) := by decide +kernel
theorem dX8_answersTo_114 : decode cX8_answersTo 114 = .ok (.iload 4, 2) := by decide +kernel
theorem dX8_answersTo_116 : decode cX8_answersTo 116 = .ok (.iaload, 1) := by decide +kernel
theorem dX8_answersTo_117 : decode cX8_answersTo 117 = .ok (.invokevirtual 310, 3) := by decide +kernel
theorem dX8_answersTo_120 : decode cX8_answersTo 120 = .ok (.ifCond .eq (-55), 3) := by decide +kernel
theorem dX8_answersTo_123 : decode cX8_answersTo 123 = .ok (.aload_n 0, 1) := by decide +kernel
theorem dX8_answersTo_124 : decode cX8_answersTo 124 = .ok (.getfield 112, 3) := by decide +kernel
theorem dX8_answersTo_127 : decode cX8_answersTo 127 = .ok (.iload 4, 2) := by decide +kernel
theorem dX8_answersTo_129 : decode cX8_answersTo 129 = .ok (.aload_n 0, 1) := by decide +kernel
theorem dX8_answersTo_130 : decode cX8_answersTo 130 = .ok (.getfield 109, 3) := by decide +kernel
theorem dX8_answersTo_133 : decode cX8_answersTo 133 = .ok (.iload 4, 2) := by decide +kernel
theorem dX8_answersTo_135 : decode cX8_answersTo 135 = .ok (.iaload, 1) := by decide +kernel
theorem dX8_answersTo_136 : decode cX8_answersTo 136 = .ok (.iastore, 1) := by decide +kernel
theorem dX8_answersTo_137 : decode cX8_answersTo 137 = .ok (.iinc 4 1, 3) := by decide +kernel
theorem dX8_answersTo_140 : decode cX8_answersTo 140 = .ok (.aload_n 0, 1) := by decide +kernel
theorem dX8_answersTo_141 : decode cX8_answersTo 141 = .ok (.getfield 109, 3) := by decide +kernel
theorem dX8_answersTo_144 : decode cX8_answersTo 144 = .ok (.iload 4, 2) := by decide +kernel
theorem dX8_answersTo_146 : decode cX8_answersTo 146 = .ok (.iconst (-1), 1) := by decide +kernel
theorem dX8_answersTo_147 : decode cX8_answersTo 147 = .ok (.iastore, 1) := by decide +kernel
theorem dX8_answersTo_148 : decode cX8_answersTo 148 = .ok (.iload 5, 2) := by decide +kernel
theorem dX8_answersTo_150 : decode cX8_answersTo 150 = .ok (.aload_n 0, 1) := by decide +kernel
theorem dX8_answersTo_151 : decode cX8_answersTo 151 = .ok (.iload_n 1, 1) := by decide +kernel
theorem dX8_answersTo_152 : decode cX8_answersTo 152 = .ok (.iload 4, 2) := by decide +kernel
theorem dX8_answersTo_154 : decode cX8_answersTo 154 = .ok (.invokevirtual 307, 3) := by decide +kernel
theorem dX8_answersTo_157 : decode cX8_answersTo 157 = .ok (.ifCond .eq 7, 3) := by decide +kernel
theorem dX8_answersTo_160 : decode cX8_answersTo 160 = .ok (.iconst 1, 1) := by decide +kernel
theorem dX8_answersTo_161 : decode cX8_answersTo 161 = .ok (.goto 4, 3) := by decide +kernel
theorem dX8_answersTo_164 : decode cX8_answersTo 164 = .ok (.iconst 0, 1) := by decide +kernel
theorem dX8_answersTo_165 : decode cX8_answersTo 165 = .ok (.iadd, 1) := by decide +kernel
theorem dX8_answersTo_166 : decode cX8_answersTo 166 = .ok (.istore 5, 2) := by decide +kernel
theorem dX8_answersTo_168 : decode cX8_answersTo 168 = .ok (.goto (-103), 3) := by decide +kernel
theorem dX8_answersTo_171 : decode cX8_answersTo 171 = .ok (.aload_n 0, 1) := by decide +kernel
theorem dX8_answersTo_172 : decode cX8_answersTo 172 = .ok (.iload 4, 2) := by decide +kernel
theorem dX8_answersTo_174 : decode cX8_answersTo 174 = .ok (.putfield 314, 3) := by decide +kernel
theorem dX8_answersTo_177 : decode cX8_answersTo 177 = .ok (.iload 5, 2) := by decide +kernel
theorem dX8_answersTo_179 : decode cX8_answersTo 179 = .ok (.ireturn, 1) := by decide +kernel
theorem dX8_letterAt_0 : decode cX8_letterAt 0 = .ok (.iload_n 1, 1) := by decide +kernel
theorem dX8_letterAt_1 : decode cX8_letterAt 1 = .ok (.aload_n 0, 1) := by decide +kernel
theorem dX8_letterAt_2 : decode cX8_letterAt 2 = .ok (.getfield 314, 3) := by decide +kernel
theorem dX8_letterAt_5 : decode cX8_letterAt 5 = .ok (.if_icmp .ge 12, 3) := by decide +kernel
theorem dX8_letterAt_8 : decode cX8_letterAt 8 = .ok (.aload_n 0, 1) := by decide +kernel
theorem dX8_letterAt_9 : decode cX8_letterAt 9 = .ok (.getfield 112, 3) := by decide +kernel
theorem dX8_letterAt_12 : decode cX8_letterAt 12 = .ok (.iload_n 1, 1) := by decide +kernel
theorem dX8_letterAt_13 : decode cX8_letterAt 13 = .ok (.iaload, 1) := by decide +kernel
theorem dX8_letterAt_14 : decode cX8_letterAt 14 = .ok (.goto 5, 3) := by decide +kernel
theorem dX8_letterAt_17 : decode cX8_letterAt 17 = .ok (.bipush 8, 2) := by decide +kernel
theorem dX8_letterAt_19 : decode cX8_letterAt 19 = .ok (.ireturn, 1) := by decide +kernel
set_option maxRecDepth 20000 in
theorem ggX8_answer_X8_isMachine : GoodIn wsX8_answer wsX8_isMachine := goodIn_g _ [(5, 4), (4, 1), (9, 1), (79, 47)] (by exact rfl) (by decide +kernel)
set_option maxRecDepth 20000 in
theorem gX8_answer_X8_isMachine : GoodIn wsX8_answer (wsV RX8 204 RX8 yX8_isMachine wsX8_isMachine) := goodIn_app (goodIn_of _ (by decide +kernel)) ggX8_answer_X8_isMachine
set_option maxRecDepth 20000 in
theorem ggX8_answer_X8_isIn : GoodIn wsX8_answer wsX8_isIn := goodIn_g _ [(9, 1)] (by exact rfl) (by decide +kernel)
set_option maxRecDepth 20000 in
theorem gX8_answer_X8_isIn : GoodIn wsX8_answer (va_wsS RX8 131 yX8_isIn wsX8_isIn) := goodIn_app (goodIn_of _ (by decide +kernel)) ggX8_answer_X8_isIn
set_option maxRecDepth 20000 in
theorem ggX8_answer_X8_isFine : GoodIn wsX8_answer wsX8_isFine := goodIn_g _ [(13, 2), (79, 47)] (by exact rfl) (by decide +kernel)
set_option maxRecDepth 20000 in
theorem gX8_answer_X8_isFine : GoodIn wsX8_answer (wsV RX8 138 RX8 yX8_isFine wsX8_isFine) := goodIn_app (goodIn_of _ (by decide +kernel)) ggX8_answer_X8_isFine
set_option maxRecDepth 20000 in
theorem ggX8_answer_X8_answersTo : GoodIn wsX8_answer wsX8_answersTo := goodIn_g _ [(18, 10), (4, 1), (28, 47), (79, 47)] (by exact rfl) (by decide +kernel)
set_option maxRecDepth 20000 in
theorem gX8_answer_X8_answersTo : GoodIn wsX8_answer (wsV RX8 317 RX8 yX8_answersTo wsX8_answersTo) := goodIn_app (goodIn_of _ (by decide +kernel)) ggX8_answer_X8_answersTo
set_option maxRecDepth 20000 in
theorem ggX8_answer_X8_letterAt : GoodIn wsX8_answer wsX8_letterAt := goodIn_g _ [(78, 1), (24, 1), (23, 1), (79, 47)] (by exact rfl) (by decide +kernel)
set_option maxRecDepth 20000 in
theorem gX8_answer_X8_letterAt : GoodIn wsX8_answer (wsV RX8 321 RX8 yX8_letterAt wsX8_letterAt) := goodIn_app (goodIn_of _ (by decide +kernel)) ggX8_answer_X8_letterAt
theorem dX8_answer_0 : decode cX8_answer 0 = .ok (.aload_n 0, 1) := by decide +kernel
theorem dX8_answer_1 : decode cX8_answer 1 = .ok (.iload_n 1, 1) := by decide +kernel
theorem dX8_answer_2 : decode cX8_answer 2 = .ok (.invokevirtual 204, 3) := by decide +kernel
theorem dX8_answer_5 : decode cX8_answer 5 = .ok (.ifCond .eq 12, 3) := by decide +kernel
theorem dX8_answer_8 : decode cX8_answer 8 = .ok (.iload 4, 2) := by decide +kernel
theorem dX8_answer_10 : decode cX8_answer 10 = .ok (.ifCond .lt 7, 3) := by decide +kernel
theorem dX8_answer_13 : decode cX8_answer 13 = .ok (.iconst 1, 1) := by decide +kernel
theorem dX8_answer_14 : decode cX8_answer 14 = .ok (.goto 4, 3) := by decide +kernel
theorem dX8_answer_17 : decode cX8_answer 17 = .ok (.iconst 0, 1) := by decide +kernel
theorem dX8_answer_18 : decode cX8_answer 18 = .ok (.istore 5, 2) := by decide +kernel
theorem dX8_answer_20 : decode cX8_answer 20 = .ok (.aload_n 0, 1) := by decide +kernel
theorem dX8_answer_21 : decode cX8_answer 21 = .ok (.iload 5, 2) := by decide +kernel
theorem dX8_answer_23 : decode cX8_answer 23 = .ok (.ifCond .ne 7, 3) := by decide +kernel
theorem dX8_answer_26 : decode cX8_answer 26 = .ok (.iconst 1, 1) := by decide +kernel
theorem dX8_answer_27 : decode cX8_answer 27 = .ok (.goto 18, 3) := by decide +kernel
theorem dX8_answer_30 : decode cX8_answer 30 = .ok (.iload_n 3, 1) := by decide +kernel
theorem dX8_answer_31 : decode cX8_answer 31 = .ok (.iconst 0, 1) := by decide +kernel
theorem dX8_answer_32 : decode cX8_answer 32 = .ok (.bipush 19, 2) := by decide +kernel
theorem dX8_answer_34 : decode cX8_answer 34 = .ok (.invokestatic 131, 3) := by decide +kernel
theorem dX8_answer_37 : decode cX8_answer 37 = .ok (.ifCond .ne 7, 3) := by decide +kernel
theorem dX8_answer_40 : decode cX8_answer 40 = .ok (.iconst 2, 1) := by decide +kernel
theorem dX8_answer_41 : decode cX8_answer 41 = .ok (.goto 4, 3) := by decide +kernel
theorem dX8_answer_44 : decode cX8_answer 44 = .ok (.iconst 0, 1) := by decide +kernel
theorem dX8_answer_45 : decode cX8_answer 45 = .ok (.invokevirtual 138, 3) := by decide +kernel
theorem dX8_answer_48 : decode cX8_answer 48 = .ok (.ifCond .ne 5, 3) := by decide +kernel
theorem dX8_answer_51 : decode cX8_answer 51 = .ok (.iconst 0, 1) := by decide +kernel
theorem dX8_answer_52 : decode cX8_answer 52 = .ok (.ireturn, 1) := by decide +kernel
theorem dX8_answer_53 : decode cX8_answer 53 = .ok (.aload_n 0, 1) := by decide +kernel
theorem dX8_answer_54 : decode cX8_answer 54 = .ok (.iload_n 1, 1) := by decide +kernel
theorem dX8_answer_55 : decode cX8_answer 55 = .ok (.iload_n 2, 1) := by decide +kernel
theorem dX8_answer_56 : decode cX8_answer 56 = .ok (.iload_n 3, 1) := by decide +kernel
theorem dX8_answer_57 : decode cX8_answer 57 = .ok (.invokevirtual 317, 3) := by decide +kernel
theorem dX8_answer_60 : decode cX8_answer 60 = .ok (.iload_n 3, 1) := by decide +kernel
theorem dX8_answer_61 : decode cX8_answer 61 = .ok (.if_icmp .le 12, 3) := by decide +kernel
theorem dX8_answer_64 : decode cX8_answer 64 = .ok (.aload_n 0, 1) := by decide +kernel
theorem dX8_answer_65 : decode cX8_answer 65 = .ok (.iload 4, 2) := by decide +kernel
theorem dX8_answer_67 : decode cX8_answer 67 = .ok (.invokevirtual 321, 3) := by decide +kernel
theorem dX8_answer_70 : decode cX8_answer 70 = .ok (.goto 4, 3) := by decide +kernel
theorem dX8_answer_73 : decode cX8_answer 73 = .ok (.iconst (-1), 1) := by decide +kernel
theorem dX8_answer_74 : decode cX8_answer 74 = .ok (.ireturn, 1) := by decide +kernel
set_option maxRecDepth 20000 in
theorem ggX8_answers_X8_isMachine : GoodIn wsX8_answers wsX8_isMachine := goodIn_g _ [(5, 4), (4, 1), (9, 1), (75, 47)] (by exact rfl) (by decide +kernel)
set_option maxRecDepth 20000 in
theorem gX8_answers_X8_isMachine : GoodIn wsX8_answers (wsV RX8 204 RX8 yX8_isMachine wsX8_isMachine) := goodIn_app (goodIn_of _ (by decide +kernel)) ggX8_answers_X8_isMachine
set_option maxRecDepth 20000 in
theorem ggX8_answers_X8_isFine : GoodIn wsX8_answers wsX8_isFine := goodIn_g _ [(13, 2), (75, 47)] (by exact rfl) (by decide +kernel)
set_option maxRecDepth 20000 in
theorem gX8_answers_X8_isFine : GoodIn wsX8_answers (wsV RX8 138 RX8 yX8_isFine wsX8_isFine) := goodIn_app (goodIn_of _ (by decide +kernel)) ggX8_answers_X8_isFine
set_option maxRecDepth 20000 in
theorem ggX8_answers_X8_answersTo : GoodIn wsX8_answers wsX8_answersTo := goodIn_g _ [(18, 10), (4, 1), (28, 94)] (by exact rfl) (by decide +kernel)
set_option maxRecDepth 20000 in
theorem gX8_answers_X8_answersTo : GoodIn wsX8_answers (wsV RX8 317 RX8 yX8_answersTo wsX8_answersTo) := goodIn_app (goodIn_of _ (by decide +kernel)) ggX8_answers_X8_answersTo
theorem dX8_answers_0 : decode cX8_answers 0 = .ok (.aload_n 0, 1) := by decide +kernel
theorem dX8_answers_1 : decode cX8_answers 1 = .ok (.aload_n 0, 1) := by decide +kernel
theorem dX8_answers_2 : decode cX8_answers 2 = .ok (.iload_n 1, 1) := by decide +kernel
theorem dX8_answers_3 : decode cX8_answers 3 = .ok (.invokevirtual 204, 3) := by decide +kernel
theorem dX8_answers_6 : decode cX8_answers 6 = .ok (.ifCond .eq 7, 3) := by decide +kernel
theorem dX8_answers_9 : decode cX8_answers 9 = .ok (.iconst 0, 1) := by decide +kernel
theorem dX8_answers_10 : decode cX8_answers 10 = .ok (.goto 4, 3) := by decide +kernel
theorem dX8_answers_13 : decode cX8_answers 13 = .ok (.iconst 1, 1) := by decide +kernel
theorem dX8_answers_14 : decode cX8_answers 14 = .ok (.invokevirtual 138, 3) := by decide +kernel
theorem dX8_answers_17 : decode cX8_answers 17 = .ok (.ifCond .eq 14, 3) := by decide +kernel
theorem dX8_answers_20 : decode cX8_answers 20 = .ok (.aload_n 0, 1) := by decide +kernel
theorem dX8_answers_21 : decode cX8_answers 21 = .ok (.iload_n 1, 1) := by decide +kernel
theorem dX8_answers_22 : decode cX8_answers 22 = .ok (.iload_n 2, 1) := by decide +kernel
theorem dX8_answers_23 : decode cX8_answers 23 = .ok (.bipush 19, 2) := by decide +kernel
theorem dX8_answers_25 : decode cX8_answers 25 = .ok (.invokevirtual 317, 3) := by decide +kernel
theorem dX8_answers_28 : decode cX8_answers 28 = .ok (.goto 4, 3) := by decide +kernel
theorem dX8_answers_31 : decode cX8_answers 31 = .ok (.iconst 0, 1) := by decide +kernel
theorem dX8_answers_32 : decode cX8_answers 32 = .ok (.ireturn, 1) := by decide +kernel
set_option maxRecDepth 20000 in
theorem ggX8_cost_X8_isMachine : GoodIn wsX8_cost wsX8_isMachine := goodIn_g _ [(7, 4), (6, 1), (11, 1), (42, 47)] (by exact rfl) (by decide +kernel)
set_option maxRecDepth 20000 in
theorem gX8_cost_X8_isMachine : GoodIn wsX8_cost (wsV RX8 204 RX8 yX8_isMachine wsX8_isMachine) := goodIn_app (goodIn_of _ (by decide +kernel)) ggX8_cost_X8_isMachine
set_option maxRecDepth 20000 in
theorem ggX8_cost_X8_isFine : GoodIn wsX8_cost wsX8_isFine := goodIn_g _ [(15, 2), (42, 47)] (by exact rfl) (by decide +kernel)
set_option maxRecDepth 20000 in
theorem gX8_cost_X8_isFine : GoodIn wsX8_cost (wsV RX8 138 RX8 yX8_isFine wsX8_isFine) := goodIn_app (goodIn_of _ (by decide +kernel)) ggX8_cost_X8_isFine
set_option maxRecDepth 20000 in
theorem ggX8_cost_X8_rests : GoodIn wsX8_cost wsX8_rests := goodIn_g _ [(20, 1), (1, 1), (21, 1), (2, 1), (22, 7), (6, 1), (29, 60)] (by exact rfl) (by decide +kernel)
set_option maxRecDepth 20000 in
theorem gX8_cost_X8_rests : GoodIn wsX8_cost (wsV RX8 303 RX8 yX8_rests wsX8_rests) := goodIn_app (goodIn_of _ (by decide +kernel)) ggX8_cost_X8_rests
theorem dX8_cost_0 : decode cX8_cost 0 = .ok (.aload_n 0, 1) := by decide +kernel
theorem dX8_cost_1 : decode cX8_cost 1 = .ok (.aload_n 0, 1) := by decide +kernel
theorem dX8_cost_2 : decode cX8_cost 2 = .ok (.iload_n 1, 1) := by decide +kernel
theorem dX8_cost_3 : decode cX8_cost 3 = .ok (.invokevirtual 204, 3) := by decide +kernel
theorem dX8_cost_6 : decode cX8_cost 6 = .ok (.ifCond .eq 7, 3) := by decide +kernel
theorem dX8_cost_9 : decode cX8_cost 9 = .ok (.iconst 0, 1) := by decide +kernel
theorem dX8_cost_10 : decode cX8_cost 10 = .ok (.goto 4, 3) := by decide +kernel
theorem dX8_cost_13 : decode cX8_cost 13 = .ok (.iconst 1, 1) := by decide +kernel
theorem dX8_cost_14 : decode cX8_cost 14 = .ok (.invokevirtual 138, 3) := by decide +kernel
theorem dX8_cost_17 : decode cX8_cost 17 = .ok (.ifCond .ne 5, 3) := by decide +kernel
theorem dX8_cost_20 : decode cX8_cost 20 = .ok (.iconst 0, 1) := by decide +kernel
theorem dX8_cost_21 : decode cX8_cost 21 = .ok (.ireturn, 1) := by decide +kernel
theorem dX8_cost_22 : decode cX8_cost 22 = .ok (.aload_n 0, 1) := by decide +kernel
theorem dX8_cost_23 : decode cX8_cost 23 = .ok (.iload_n 1, 1) := by decide +kernel
theorem dX8_cost_24 : decode cX8_cost 24 = .ok (.iload_n 2, 1) := by decide +kernel
theorem dX8_cost_25 : decode cX8_cost 25 = .ok (.invokevirtual 303, 3) := by decide +kernel
theorem dX8_cost_28 : decode cX8_cost 28 = .ok (.aload_n 0, 1) := by decide +kernel
theorem dX8_cost_29 : decode cX8_cost 29 = .ok (.getfield 96, 3) := by decide +kernel
theorem dX8_cost_32 : decode cX8_cost 32 = .ok (.iconst 0, 1) := by decide +kernel
theorem dX8_cost_33 : decode cX8_cost 33 = .ok (.iaload, 1) := by decide +kernel
theorem dX8_cost_34 : decode cX8_cost 34 = .ok (.ldc_w 284, 3) := by decide +kernel
theorem dX8_cost_37 : decode cX8_cost 37 = .ok (.if_icmp .ne 7, 3) := by decide +kernel
theorem dX8_cost_40 : decode cX8_cost 40 = .ok (.iconst (-1), 1) := by decide +kernel
theorem dX8_cost_41 : decode cX8_cost 41 = .ok (.goto 9, 3) := by decide +kernel
theorem dX8_cost_44 : decode cX8_cost 44 = .ok (.aload_n 0, 1) := by decide +kernel
theorem dX8_cost_45 : decode cX8_cost 45 = .ok (.getfield 96, 3) := by decide +kernel
theorem dX8_cost_48 : decode cX8_cost 48 = .ok (.iconst 0, 1) := by decide +kernel
theorem dX8_cost_49 : decode cX8_cost 49 = .ok (.iaload, 1) := by decide +kernel
theorem dX8_cost_50 : decode cX8_cost 50 = .ok (.ireturn, 1) := by decide +kernel
set_option maxRecDepth 20000 in
theorem ggX8_closesHere_X8_outOf : GoodIn wsX8_closesHere wsX8_outOf := goodIn_g _ [(12, 3), (24, 47)] (by exact rfl) (by decide +kernel)
set_option maxRecDepth 20000 in
theorem gX8_closesHere_X8_outOf : GoodIn wsX8_closesHere (wsV RX8 289 RX8 yX8_outOf wsX8_outOf) := goodIn_app (goodIn_of _ (by decide +kernel)) ggX8_closesHere_X8_outOf
set_option maxRecDepth 20000 in
theorem ggX8_closesHere_X8_behind : GoodIn wsX8_closesHere wsX8_behind := goodIn_g _ [(18, 1), (2, 1), (19, 4), (11, 1), (23, 1), (14, 1), (13, 1), (24, 47)] (by exact rfl) (by decide +kernel)
set_option maxRecDepth 20000 in
theorem gX8_closesHere_X8_behind : GoodIn wsX8_closesHere (wsV RX8 285 RX8 yX8_behind wsX8_behind) := goodIn_app (goodIn_of _ (by decide +kernel)) ggX8_closesHere_X8_behind
theorem dX8_closesHere_0 : decode cX8_closesHere 0 = .ok (.iconst 1, 1) := by decide +kernel
theorem dX8_closesHere_1 : decode cX8_closesHere 1 = .ok (.istore_n 3, 1) := by decide +kernel
theorem dX8_closesHere_2 : decode cX8_closesHere 2 = .ok (.iload_n 3, 1) := by decide +kernel
theorem dX8_closesHere_3 : decode cX8_closesHere 3 = .ok (.ifCond .eq 219, 3) := by decide +kernel
theorem dX8_closesHere_6 : decode cX8_closesHere 6 = .ok (.iconst 0, 1) := by decide +kernel
theorem dX8_closesHere_7 : decode cX8_closesHere 7 = .ok (.istore_n 3, 1) := by decide +kernel
theorem dX8_closesHere_8 : decode cX8_closesHere 8 = .ok (.sipush 160, 3) := by decide +kernel
theorem dX8_closesHere_11 : decode cX8_closesHere 11 = .ok (.iload_n 1, 1) := by decide +kernel
theorem dX8_closesHere_12 : decode cX8_closesHere 12 = .ok (.imul, 1) := by decide +kernel
theorem dX8_closesHere_13 : decode cX8_closesHere 13 = .ok (.istore 4, 2) := by decide +kernel
theorem dX8_closesHere_15 : decode cX8_closesHere 15 = .ok (.iload 4, 2) := by decide +kernel
theorem dX8_closesHere_17 : decode cX8_closesHere 17 = .ok (.sipush 160, 3) := by decide +kernel
theorem dX8_closesHere_20 : decode cX8_closesHere 20 = .ok (.iload_n 1, 1) := by decide +kernel
theorem dX8_closesHere_21 : decode cX8_closesHere 21 = .ok (.imul, 1) := by decide +kernel
theorem dX8_closesHere_22 : decode cX8_closesHere 22 = .ok (.aload_n 0, 1) := by decide +kernel
theorem dX8_closesHere_23 : decode cX8_closesHere 23 = .ok (.getfield 19, 3) := by decide +kernel
theorem dX8_closesHere_26 : decode cX8_closesHere 26 = .ok (.iload_n 1, 1) := by decide +kernel
theorem dX8_closesHere_27 : decode cX8_closesHere 27 = .ok (.iaload, 1) := by decide +kernel
theorem dX8_closesHere_28 : decode cX8_closesHere 28 = .ok (.iadd, 1) := by decide +kernel
theorem dX8_closesHere_29 : decode cX8_closesHere 29 = .ok (.if_icmp .ge 190, 3) := by decide +kernel
theorem dX8_closesHere_32 : decode cX8_closesHere 32 = .ok (.iconst 0, 1) := by decide +kernel
theorem dX8_closesHere_33 : decode cX8_closesHere 33 = .ok (.istore 5, 2) := by decide +kernel
theorem dX8_closesHere_35 : decode cX8_closesHere 35 = .ok (.iload 5, 2) := by decide +kernel
theorem dX8_closesHere_37 : decode cX8_closesHere 37 = .ok (.aload_n 0, 1) := by decide +kernel
theorem dX8_closesHere_38 : decode cX8_closesHere 38 = .ok (.getfield 135, 3) := by decide +kernel
theorem dX8_closesHere_41 : decode cX8_closesHere 41 = .ok (.if_icmp .gt 172, 3) := by decide +kernel
theorem dX8_closesHere_44 : decode cX8_closesHere 44 = .ok (.aload_n 0, 1) := by decide +kernel
theorem dX8_closesHere_45 : decode cX8_closesHere 45 = .ok (.iload 4, 2) := by decide +kernel
theorem dX8_closesHere_47 : decode cX8_closesHere 47 = .ok (.iload_n 2, 1) := by decide +kernel
theorem dX8_closesHere_48 : decode cX8_closesHere 48 = .ok (.invokevirtual 289, 3) := by decide +kernel
theorem dX8_closesHere_51 : decode cX8_closesHere 51 = .ok (.bipush 8, 2) := by decide +kernel
theorem dX8_closesHere_53 : decode cX8_closesHere 53 = .ok (.if_icmp .ne 160, 3) := by decide +kernel
theorem dX8_closesHere_56 : decode cX8_closesHere 56 = .ok (.aload_n 0, 1) := by decide +kernel
theorem dX8_closesHere_57 : decode cX8_closesHere 57 = .ok (.iload 4, 2) := by decide +kernel
theorem dX8_closesHere_59 : decode cX8_closesHere 59 = .ok (.iload 5, 2) := by decide +kernel
theorem dX8_closesHere_61 : decode cX8_closesHere 61 = .ok (.iload_n 2, 1) := by decide +kernel
theorem dX8_closesHere_62 : decode cX8_closesHere 62 = .ok (.invokevirtual 285, 3) := by decide +kernel
theorem dX8_closesHere_65 : decode cX8_closesHere 65 = .ok (.istore 6, 2) := by decide +kernel
theorem dX8_closesHere_67 : decode cX8_closesHere 67 = .ok (.iload 6, 2) := by decide +kernel
theorem dX8_closesHere_69 : decode cX8_closesHere 69 = .ok (.iconst (-1), 1) := by decide +kernel
theorem dX8_closesHere_70 : decode cX8_closesHere 70 = .ok (.if_icmp .eq 27, 3) := by decide +kernel
theorem dX8_closesHere_73 : decode cX8_closesHere 73 = .ok (.aload_n 0, 1) := by decide +kernel
theorem dX8_closesHere_74 : decode cX8_closesHere 74 = .ok (.getfield 99, 3) := by decide +kernel
theorem dX8_closesHere_77 : decode cX8_closesHere 77 = .ok (.bipush 32, 2) := by decide +kernel
theorem dX8_closesHere_79 : decode cX8_closesHere 79 = .ok (.iload 5, 2) := by decide +kernel
theorem dX8_closesHere_81 : decode cX8_closesHere 81 = .ok (.imul, 1) := by decide +kernel
theorem dX8_closesHere_82 : decode cX8_closesHere 82 = .ok (.aload_n 0, 1) := by decide +kernel
theorem dX8_closesHere_83 : decode cX8_closesHere 83 = .ok (.getfield 22, 3) := by decide +kernel
theorem dX8_closesHere_86 : decode cX8_closesHere 86 = .ok (.iload 4, 2) := by decide +kernel
theorem dX8_closesHere_88 : decode cX8_closesHere 88 = .ok (.iaload, 1) := by decide +kernel
theorem dX8_closesHere_89 : decode cX8_closesHere 89 = .ok (.iadd, 1) := by decide +kernel
theorem dX8_closesHere_90 : decode cX8_closesHere 90 = .ok (.iaload, 1) := by decide +kernel
theorem dX8_closesHere_91 : decode cX8_closesHere 91 = .ok (.ldc_w 284, 3) := by decide +kernel
theorem dX8_closesHere_94 : decode cX8_closesHere 94 = .ok (.if_icmp .ne 9, 3) := by decide +kernel
theorem dX8_closesHere_97 : decode cX8_closesHere 97 = .ok (.ldc_w 284, 3) := by decide +kernel
theorem dX8_closesHere_100 : decode cX8_closesHere 100 = .ok (.goto 29, 3) := by decide +kernel
theorem dX8_closesHere_103 : decode cX8_closesHere 103 = .ok (.aload_n 0, 1) := by decide +kernel
theorem dX8_closesHere_104 : decode cX8_closesHere 104 = .ok (.getfield 99, 3) := by decide +kernel
theorem dX8_closesHere_107 : decode cX8_closesHere 107 = .ok (.bipush 32, 2) := by decide +kernel
theorem dX8_closesHere_109 : decode cX8_closesHere 109 = .ok (.iload 5, 2) := by decide +kernel
theorem dX8_closesHere_111 : decode cX8_closesHere 111 = .ok (.imul, 1) := by decide +kernel
theorem dX8_closesHere_112 : decode cX8_closesHere 112 = .ok (.aload_n 0, 1) := by decide +kernel
theorem dX8_closesHere_113 : decode cX8_closesHere 113 = .ok (.getfield 22, 3) := by decide +kernel
theorem dX8_closesHere_116 : decode cX8_closesHere 116 = .ok (.iload 4, 2) := by decide +kernel
theorem dX8_closesHere_118 : decode cX8_closesHere 118 = .ok (.iaload, 1) := by decide +kernel
theorem dX8_closesHere_119 : decode cX8_closesHere 119 = .ok (.iadd, 1) := by decide +kernel
theorem dX8_closesHere_120 : decode cX8_closesHere 120 = .ok (.iaload, 1) := by decide +kernel
theorem dX8_closesHere_121 : decode cX8_closesHere 121 = .ok (.aload_n 0, 1) := by decide +kernel
theorem dX8_closesHere_122 : decode cX8_closesHere 122 = .ok (.getfield 31, 3) := by decide +kernel
theorem dX8_closesHere_125 : decode cX8_closesHere 125 = .ok (.iload 4, 2) := by decide +kernel
theorem dX8_closesHere_127 : decode cX8_closesHere 127 = .ok (.iaload, 1) := by decide +kernel
theorem dX8_closesHere_128 : decode cX8_closesHere 128 = .ok (.iadd, 1) := by decide +kernel
theorem dX8_closesHere_129 : decode cX8_closesHere 129 = .ok (.istore 7, 2) := by decide +kernel
theorem dX8_closesHere_131 : decode cX8_closesHere 131 = .ok (.iload 6, 2) := by decide +kernel
theorem dX8_closesHere_133 : decode cX8_closesHere 133 = .ok (.iconst (-1), 1) := by decide +kernel
theorem dX8_closesHere_134 : decode cX8_closesHere 134 = .ok (.if_icmp .eq 30, 3) := by decide +kernel
theorem dX8_closesHere_137 : decode cX8_closesHere 137 = .ok (.iload 7, 2) := by decide +kernel
theorem dX8_closesHere_139 : decode cX8_closesHere 139 = .ok (.aload_n 0, 1) := by decide +kernel
theorem dX8_closesHere_140 : decode cX8_closesHere 140 = .ok (.getfield 99, 3) := by decide +kernel
theorem dX8_closesHere_143 : decode cX8_closesHere 143 = .ok (.bipush 32, 2) := by decide +kernel
theorem dX8_closesHere_145 : decode cX8_closesHere 145 = .ok (.iload 6, 2) := by decide +kernel
theorem dX8_closesHere_147 : decode cX8_closesHere 147 = .ok (.imul, 1) := by decide +kernel
theorem dX8_closesHere_148 : decode cX8_closesHere 148 = .ok (.aload_n 0, 1) := by decide +kernel
theorem dX8_closesHere_149 : decode cX8_closesHere 149 = .ok (.getfield 34, 3) := by decide +kernel
theorem dX8_closesHere_152 : decode cX8_closesHere 152 = .ok (.iload 4, 2) := by decide +kernel
theorem dX8_closesHere_154 : decode cX8_closesHere 154 = .ok (.iaload, 1) := by decide +kernel
theorem dX8_closesHere_155 : decode cX8_closesHere 155 = .ok (.iadd, 1) := by decide +kernel
theorem dX8_closesHere_156 : decode cX8_closesHere 156 = .ok (.iaload, 1) := by decide +kernel
theorem dX8_closesHere_157 : decode cX8_closesHere 157 = .ok (.if_icmp .ge 7, 3) := by decide +kernel
theorem dX8_closesHere_160 : decode cX8_closesHere 160 = .ok (.iconst 1, 1) := by decide +kernel
theorem dX8_closesHere_161 : decode cX8_closesHere 161 = .ok (.goto 4, 3) := by decide +kernel
theorem dX8_closesHere_164 : decode cX8_closesHere 164 = .ok (.iconst 0, 1) := by decide +kernel
theorem dX8_closesHere_165 : decode cX8_closesHere 165 = .ok (.istore 8, 2) := by decide +kernel
theorem dX8_closesHere_167 : decode cX8_closesHere 167 = .ok (.iload 8, 2) := by decide +kernel
theorem dX8_closesHere_169 : decode cX8_closesHere 169 = .ok (.ifCond .eq 23, 3) := by decide +kernel
theorem dX8_closesHere_172 : decode cX8_closesHere 172 = .ok (.aload_n 0, 1) := by decide +kernel
theorem dX8_closesHere_173 : decode cX8_closesHere 173 = .ok (.getfield 99, 3) := by decide +kernel
theorem dX8_closesHere_176 : decode cX8_closesHere 176 = .ok (.bipush 32, 2) := by decide +kernel
theorem dX8_closesHere_178 : decode cX8_closesHere 178 = .ok (.iload 6, 2) := by decide +kernel
theorem dX8_closesHere_180 : decode cX8_closesHere 180 = .ok (.imul, 1) := by decide +kernel
theorem dX8_closesHere_181 : decode cX8_closesHere 181 = .ok (.aload_n 0, 1) := by decide +kernel
theorem dX8_closesHere_182 : decode cX8_closesHere 182 = .ok (.getfield 34, 3) := by decide +kernel
theorem dX8_closesHere_185 : decode cX8_closesHere 185 = .ok (.iload 4, 2) := by decide +kernel
theorem dX8_closesHere_187 : decode cX8_closesHere 187 = .ok (.iaload, 1) := by decide +kernel
theorem dX8_closesHere_188 : decode cX8_closesHere 188 = .ok (.iadd, 1) := by decide +kernel
theorem dX8_closesHere_189 : decode cX8_closesHere 189 = .ok (.iload 7, 2) := by decide +kernel
theorem dX8_closesHere_191 : decode cX8_closesHere 191 = .ok (.iastore, 1) := by decide +kernel
theorem dX8_closesHere_192 : decode cX8_closesHere 192 = .ok (.iload_n 3, 1) := by decide +kernel
theorem dX8_closesHere_193 : decode cX8_closesHere 193 = .ok (.ifCond .ne 8, 3) := by decide +kernel
theorem dX8_closesHere_196 : decode cX8_closesHere 196 = .ok (.iload 8, 2) := by decide +kernel
theorem dX8_closesHere_198 : decode cX8_closesHere 198 = .ok (.ifCond .eq 7, 3) := by decide +kernel
theorem dX8_closesHere_201 : decode cX8_closesHere 201 = .ok (.iconst 1, 1) := by decide +kernel
theorem dX8_closesHere_202 : decode cX8_closesHere 202 = .ok (.goto 4, 3) := by decide +kernel
theorem dX8_closesHere_205 : decode cX8_closesHere 205 = .ok (.iconst 0, 1) := by decide +kernel
theorem dX8_closesHere_206 : decode cX8_closesHere 206 = .ok (.istore_n 3, 1) := by decide +kernel
theorem dX8_closesHere_207 : decode cX8_closesHere 207 = .ok (.iinc 5 1, 3) := by decide +kernel
theorem dX8_closesHere_210 : decode cX8_closesHere 210 = .ok (.goto (-175), 3) := by decide +kernel
theorem dX8_closesHere_213 : decode cX8_closesHere 213 = .ok (.iinc 4 1, 3) := by decide +kernel
theorem dX8_closesHere_216 : decode cX8_closesHere 216 = .ok (.goto (-201), 3) := by decide +kernel
theorem dX8_closesHere_219 : decode cX8_closesHere 219 = .ok (.goto (-217), 3) := by decide +kernel
theorem dX8_closesHere_222 : decode cX8_closesHere 222 = .ok (.return_, 1) := by decide +kernel
set_option maxRecDepth 20000 in
theorem ggX8_goesHere_X8_outOf : GoodIn wsX8_goesHere wsX8_outOf := goodIn_g _ [(14, 3), (26, 47)] (by exact rfl) (by decide +kernel)
set_option maxRecDepth 20000 in
theorem gX8_goesHere_X8_outOf : GoodIn wsX8_goesHere (wsV RX8 289 RX8 yX8_outOf wsX8_outOf) := goodIn_app (goodIn_of _ (by decide +kernel)) ggX8_goesHere_X8_outOf
set_option maxRecDepth 20000 in
theorem ggX8_goesHere_X8_behind : GoodIn wsX8_goesHere wsX8_behind := goodIn_g _ [(20, 1), (4, 1), (21, 4), (13, 1), (25, 1), (16, 1), (15, 1), (26, 47)] (by exact rfl) (by decide +kernel)
set_option maxRecDepth 20000 in
theorem gX8_goesHere_X8_behind : GoodIn wsX8_goesHere (wsV RX8 285 RX8 yX8_behind wsX8_behind) := goodIn_app (goodIn_of _ (by decide +kernel)) ggX8_goesHere_X8_behind
theorem dX8_goesHere_0 : decode cX8_goesHere 0 = .ok (.iconst 0, 1) := by decide +kernel
theorem dX8_goesHere_1 : decode cX8_goesHere 1 = .ok (.istore 4, 2) := by decide +kernel
theorem dX8_goesHere_3 : decode cX8_goesHere 3 = .ok (.iload 4, 2) := by decide +kernel
theorem dX8_goesHere_5 : decode cX8_goesHere 5 = .ok (.sipush 288, 3) := by decide +kernel
theorem dX8_goesHere_8 : decode cX8_goesHere 8 = .ok (.if_icmp .ge 19, 3) := by decide +kernel
theorem dX8_goesHere_11 : decode cX8_goesHere 11 = .ok (.aload_n 0, 1) := by decide +kernel
theorem dX8_goesHere_12 : decode cX8_goesHere 12 = .ok (.getfield 102, 3) := by decide +kernel
theorem dX8_goesHere_15 : decode cX8_goesHere 15 = .ok (.iload 4, 2) := by decide +kernel
theorem dX8_goesHere_17 : decode cX8_goesHere 17 = .ok (.ldc_w 284, 3) := by decide +kernel
theorem dX8_goesHere_20 : decode cX8_goesHere 20 = .ok (.iastore, 1) := by decide +kernel
theorem dX8_goesHere_21 : decode cX8_goesHere 21 = .ok (.iinc 4 1, 3) := by decide +kernel
theorem dX8_goesHere_24 : decode cX8_goesHere 24 = .ok (.goto (-21), 3) := by decide +kernel
theorem dX8_goesHere_27 : decode cX8_goesHere 27 = .ok (.ldc_w 284, 3) := by decide +kernel
theorem dX8_goesHere_30 : decode cX8_goesHere 30 = .ok (.istore 4, 2) := by decide +kernel
theorem dX8_goesHere_32 : decode cX8_goesHere 32 = .ok (.sipush 160, 3) := by decide +kernel
theorem dX8_goesHere_35 : decode cX8_goesHere 35 = .ok (.iload_n 1, 1) := by decide +kernel
theorem dX8_goesHere_36 : decode cX8_goesHere 36 = .ok (.imul, 1) := by decide +kernel
theorem dX8_goesHere_37 : decode cX8_goesHere 37 = .ok (.istore 5, 2) := by decide +kernel
theorem dX8_goesHere_39 : decode cX8_goesHere 39 = .ok (.iload 5, 2) := by decide +kernel
theorem dX8_goesHere_41 : decode cX8_goesHere 41 = .ok (.sipush 160, 3) := by decide +kernel
theorem dX8_goesHere_44 : decode cX8_goesHere 44 = .ok (.iload_n 1, 1) := by decide +kernel
theorem dX8_goesHere_45 : decode cX8_goesHere 45 = .ok (.imul, 1) := by decide +kernel
theorem dX8_goesHere_46 : decode cX8_goesHere 46 = .ok (.aload_n 0, 1) := by decide +kernel
theorem dX8_goesHere_47 : decode cX8_goesHere 47 = .ok (.getfield 19, 3) := by decide +kernel
theorem dX8_goesHere_50 : decode cX8_goesHere 50 = .ok (.iload_n 1, 1) := by decide +kernel
theorem dX8_goesHere_51 : decode cX8_goesHere 51 = .ok (.iaload, 1) := by decide +kernel
theorem dX8_goesHere_52 : decode cX8_goesHere 52 = .ok (.iadd, 1) := by decide +kernel
theorem dX8_goesHere_53 : decode cX8_goesHere 53 = .ok (.if_icmp .ge 209, 3) := by decide +kernel
theorem dX8_goesHere_56 : decode cX8_goesHere 56 = .ok (.iconst 0, 1) := by decide +kernel
theorem dX8_goesHere_57 : decode cX8_goesHere 57 = .ok (.istore 6, 2) := by decide +kernel
theorem dX8_goesHere_59 : decode cX8_goesHere 59 = .ok (.iload 6, 2) := by decide +kernel
theorem dX8_goesHere_61 : decode cX8_goesHere 61 = .ok (.aload_n 0, 1) := by decide +kernel
theorem dX8_goesHere_62 : decode cX8_goesHere 62 = .ok (.getfield 135, 3) := by decide +kernel
theorem dX8_goesHere_65 : decode cX8_goesHere 65 = .ok (.if_icmp .gt 191, 3) := by decide +kernel
theorem dX8_goesHere_68 : decode cX8_goesHere 68 = .ok (.aload_n 0, 1) := by decide +kernel
theorem dX8_goesHere_69 : decode cX8_goesHere 69 = .ok (.iload 5, 2) := by decide +kernel
theorem dX8_goesHere_71 : decode cX8_goesHere 71 = .ok (.iload_n 2, 1) := by decide +kernel
theorem dX8_goesHere_72 : decode cX8_goesHere 72 = .ok (.invokevirtual 289, 3) := by decide +kernel
theorem dX8_goesHere_75 : decode cX8_goesHere 75 = .ok (.iload_n 3, 1) := by decide +kernel
theorem dX8_goesHere_76 : decode cX8_goesHere 76 = .ok (.if_icmp .ne 180, 3) := by decide +kernel
theorem dX8_goesHere_79 : decode cX8_goesHere 79 = .ok (.aload_n 0, 1) := by decide +kernel
theorem dX8_goesHere_80 : decode cX8_goesHere 80 = .ok (.iload 5, 2) := by decide +kernel
theorem dX8_goesHere_82 : decode cX8_goesHere 82 = .ok (.iload 6, 2) := by decide +kernel
theorem dX8_goesHere_84 : decode cX8_goesHere 84 = .ok (.iload_n 2, 1) := by decide +kernel
theorem dX8_goesHere_85 : decode cX8_goesHere 85 = .ok (.invokevirtual 285, 3) := by decide +kernel
theorem dX8_goesHere_88 : decode cX8_goesHere 88 = .ok (.istore 7, 2) := by decide +kernel
theorem dX8_goesHere_90 : decode cX8_goesHere 90 = .ok (.iload 7, 2) := by decide +kernel
theorem dX8_goesHere_92 : decode cX8_goesHere 92 = .ok (.iconst (-1), 1) := by decide +kernel
theorem dX8_goesHere_93 : decode cX8_goesHere 93 = .ok (.if_icmp .eq 157, 3) := by decide +kernel
theorem dX8_goesHere_96 : decode cX8_goesHere 96 = .ok (.aload_n 0, 1) := by decide +kernel
theorem dX8_goesHere_97 : decode cX8_goesHere 97 = .ok (.getfield 99, 3) := by decide +kernel
theorem dX8_goesHere_100 : decode cX8_goesHere 100 = .ok (.bipush 32, 2) := by decide +kernel
theorem dX8_goesHere_102 : decode cX8_goesHere 102 = .ok (.iload 6, 2) := by decide +kernel
theorem dX8_goesHere_104 : decode cX8_goesHere 104 = .ok (.imul, 1) := by decide +kernel
theorem dX8_goesHere_105 : decode cX8_goesHere 105 = .ok (.aload_n 0, 1) := by decide +kernel
theorem dX8_goesHere_106 : decode cX8_goesHere 106 = .ok (.getfield 22, 3) := by decide +kernel
theorem dX8_goesHere_109 : decode cX8_goesHere 109 = .ok (.iload 5, 2) := by decide +kernel
theorem dX8_goesHere_111 : decode cX8_goesHere 111 = .ok (.iaload, 1) := by decide +kernel
theorem dX8_goesHere_112 : decode cX8_goesHere 112 = .ok (.iadd, 1) := by decide +kernel
theorem dX8_goesHere_113 : decode cX8_goesHere 113 = .ok (.iaload, 1) := by decide +kernel
theorem dX8_goesHere_114 : decode cX8_goesHere 114 = .ok (.ldc_w 284, 3) := by decide +kernel
theorem dX8_goesHere_117 : decode cX8_goesHere 117 = .ok (.if_icmp .eq 133, 3) := by decide +kernel
theorem dX8_goesHere_120 : decode cX8_goesHere 120 = .ok (.aload_n 0, 1) := by decide +kernel
theorem dX8_goesHere_121 : decode cX8_goesHere 121 = .ok (.getfield 96, 3) := by decide +kernel
theorem dX8_goesHere_124 : decode cX8_goesHere 124 = .ok (.bipush 32, 2) := by decide +kernel
theorem dX8_goesHere_126 : decode cX8_goesHere 126 = .ok (.iload 7, 2) := by decide +kernel
theorem dX8_goesHere_128 : decode cX8_goesHere 128 = .ok (.imul, 1) := by decide +kernel
theorem dX8_goesHere_129 : decode cX8_goesHere 129 = .ok (.aload_n 0, 1) := by decide +kernel
theorem dX8_goesHere_130 : decode cX8_goesHere 130 = .ok (.getfield 34, 3) := by decide +kernel
theorem dX8_goesHere_133 : decode cX8_goesHere 133 = .ok (.iload 5, 2) := by decide +kernel
theorem dX8_goesHere_135 : decode cX8_goesHere 135 = .ok (.iaload, 1) := by decide +kernel
theorem dX8_goesHere_136 : decode cX8_goesHere 136 = .ok (.iadd, 1) := by decide +kernel
theorem dX8_goesHere_137 : decode cX8_goesHere 137 = .ok (.iaload, 1) := by decide +kernel
theorem dX8_goesHere_138 : decode cX8_goesHere 138 = .ok (.ldc_w 284, 3) := by decide +kernel
theorem dX8_goesHere_141 : decode cX8_goesHere 141 = .ok (.if_icmp .eq 109, 3) := by decide +kernel
theorem dX8_goesHere_144 : decode cX8_goesHere 144 = .ok (.aload_n 0, 1) := by decide +kernel
theorem dX8_goesHere_145 : decode cX8_goesHere 145 = .ok (.getfield 99, 3) := by decide +kernel
theorem dX8_goesHere_148 : decode cX8_goesHere 148 = .ok (.bipush 32, 2) := by decide +kernel
theorem dX8_goesHere_150 : decode cX8_goesHere 150 = .ok (.iload 6, 2) := by decide +kernel
theorem dX8_goesHere_152 : decode cX8_goesHere 152 = .ok (.imul, 1) := by decide +kernel
theorem dX8_goesHere_153 : decode cX8_goesHere 153 = .ok (.aload_n 0, 1) := by decide +kernel
theorem dX8_goesHere_154 : decode cX8_goesHere 154 = .ok (.getfield 22, 3) := by decide +kernel
theorem dX8_goesHere_157 : decode cX8_goesHere 157 = .ok (.iload 5, 2) := by decide +kernel
theorem dX8_goesHere_159 : decode cX8_goesHere 159 = .ok (.iaload, 1) := by decide +kernel
theorem dX8_goesHere_160 : decode cX8_goesHere 160 = .ok (.iadd, 1) := by decide +kernel
theorem dX8_goesHere_161 : decode cX8_goesHere 161 = .ok (.iaload, 1) := by decide +kernel
theorem dX8_goesHere_162 : decode cX8_goesHere 162 = .ok (.aload_n 0, 1) := by decide +kernel
theorem dX8_goesHere_163 : decode cX8_goesHere 163 = .ok (.getfield 31, 3) := by decide +kernel
theorem dX8_goesHere_166 : decode cX8_goesHere 166 = .ok (.iload 5, 2) := by decide +kernel
theorem dX8_goesHere_168 : decode cX8_goesHere 168 = .ok (.iaload, 1) := by decide +kernel
theorem dX8_goesHere_169 : decode cX8_goesHere 169 = .ok (.iadd, 1) := by decide +kernel
theorem dX8_goesHere_170 : decode cX8_goesHere 170 = .ok (.istore 8, 2) := by decide +kernel
theorem dX8_goesHere_172 : decode cX8_goesHere 172 = .ok (.bipush 32, 2) := by decide +kernel
theorem dX8_goesHere_174 : decode cX8_goesHere 174 = .ok (.iload 7, 2) := by decide +kernel
theorem dX8_goesHere_176 : decode cX8_goesHere 176 = .ok (.imul, 1) := by decide +kernel
theorem dX8_goesHere_177 : decode cX8_goesHere 177 = .ok (.aload_n 0, 1) := by decide +kernel
theorem dX8_goesHere_178 : decode cX8_goesHere 178 = .ok (.getfield 34, 3) := by decide +kernel
theorem dX8_goesHere_181 : decode cX8_goesHere 181 = .ok (.iload 5, 2) := by decide +kernel
theorem dX8_goesHere_183 : decode cX8_goesHere 183 = .ok (.iaload, 1) := by decide +kernel
theorem dX8_goesHere_184 : decode cX8_goesHere 184 = .ok (.iadd, 1) := by decide +kernel
theorem dX8_goesHere_185 : decode cX8_goesHere 185 = .ok (.istore 9, 2) := by decide +kernel
theorem dX8_goesHere_187 : decode cX8_goesHere 187 = .ok (.aload_n 0, 1) := by decide +kernel
theorem dX8_goesHere_188 : decode cX8_goesHere 188 = .ok (.getfield 102, 3) := by decide +kernel
theorem dX8_goesHere_191 : decode cX8_goesHere 191 = .ok (.iload 9, 2) := by decide +kernel
theorem dX8_goesHere_193 : decode cX8_goesHere 193 = .ok (.iload 8, 2) := by decide +kernel
theorem dX8_goesHere_195 : decode cX8_goesHere 195 = .ok (.aload_n 0, 1) := by decide +kernel
theorem dX8_goesHere_196 : decode cX8_goesHere 196 = .ok (.getfield 102, 3) := by decide +kernel
theorem dX8_goesHere_199 : decode cX8_goesHere 199 = .ok (.iload 9, 2) := by decide +kernel
theorem dX8_goesHere_201 : decode cX8_goesHere 201 = .ok (.iaload, 1) := by decide +kernel
theorem dX8_goesHere_202 : decode cX8_goesHere 202 = .ok (.if_icmp .ge 8, 3) := by decide +kernel
theorem dX8_goesHere_205 : decode cX8_goesHere 205 = .ok (.iload 8, 2) := by decide +kernel
theorem dX8_goesHere_207 : decode cX8_goesHere 207 = .ok (.goto 10, 3) := by decide +kernel
theorem dX8_goesHere_210 : decode cX8_goesHere 210 = .ok (.aload_n 0, 1) := by decide +kernel
theorem dX8_goesHere_211 : decode cX8_goesHere 211 = .ok (.getfield 102, 3) := by decide +kernel
theorem dX8_goesHere_214 : decode cX8_goesHere 214 = .ok (.iload 9, 2) := by decide +kernel
theorem dX8_goesHere_216 : decode cX8_goesHere 216 = .ok (.iaload, 1) := by decide +kernel
theorem dX8_goesHere_217 : decode cX8_goesHere 217 = .ok (.iastore, 1) := by decide +kernel
theorem dX8_goesHere_218 : decode cX8_goesHere 218 = .ok (.iload 8, 2) := by decide +kernel
theorem dX8_goesHere_220 : decode cX8_goesHere 220 = .ok (.aload_n 0, 1) := by decide +kernel
theorem dX8_goesHere_221 : decode cX8_goesHere 221 = .ok (.getfield 96, 3) := by decide +kernel
theorem dX8_goesHere_224 : decode cX8_goesHere 224 = .ok (.iload 9, 2) := by decide +kernel
theorem dX8_goesHere_226 : decode cX8_goesHere 226 = .ok (.iaload, 1) := by decide +kernel
theorem dX8_goesHere_227 : decode cX8_goesHere 227 = .ok (.iadd, 1) := by decide +kernel
theorem dX8_goesHere_228 : decode cX8_goesHere 228 = .ok (.iload 4, 2) := by decide +kernel
theorem dX8_goesHere_230 : decode cX8_goesHere 230 = .ok (.if_icmp .ge 16, 3) := by decide +kernel
theorem dX8_goesHere_233 : decode cX8_goesHere 233 = .ok (.iload 8, 2) := by decide +kernel
theorem dX8_goesHere_235 : decode cX8_goesHere 235 = .ok (.aload_n 0, 1) := by decide +kernel
theorem dX8_goesHere_236 : decode cX8_goesHere 236 = .ok (.getfield 96, 3) := by decide +kernel
theorem dX8_goesHere_239 : decode cX8_goesHere 239 = .ok (.iload 9, 2) := by decide +kernel
theorem dX8_goesHere_241 : decode cX8_goesHere 241 = .ok (.iaload, 1) := by decide +kernel
theorem dX8_goesHere_242 : decode cX8_goesHere 242 = .ok (.iadd, 1) := by decide +kernel
theorem dX8_goesHere_243 : decode cX8_goesHere 243 = .ok (.goto 5, 3) := by decide +kernel
theorem dX8_goesHere_246 : decode cX8_goesHere 246 = .ok (.iload 4, 2) := by decide +kernel
theorem dX8_goesHere_248 : decode cX8_goesHere 248 = .ok (.istore 4, 2) := by decide +kernel
theorem dX8_goesHere_250 : decode cX8_goesHere 250 = .ok (.iinc 6 1, 3) := by decide +kernel
theorem dX8_goesHere_253 : decode cX8_goesHere 253 = .ok (.goto (-194), 3) := by decide +kernel
theorem dX8_goesHere_256 : decode cX8_goesHere 256 = .ok (.iinc 5 1, 3) := by decide +kernel
theorem dX8_goesHere_259 : decode cX8_goesHere 259 = .ok (.goto (-220), 3) := by decide +kernel
theorem dX8_goesHere_262 : decode cX8_goesHere 262 = .ok (.iload 4, 2) := by decide +kernel
theorem dX8_goesHere_264 : decode cX8_goesHere 264 = .ok (.ireturn, 1) := by decide +kernel
theorem dX8_begins__0 : decode cX8_begins_ 0 = .ok (.iconst 0, 1) := by decide +kernel
theorem dX8_begins__1 : decode cX8_begins_ 1 = .ok (.istore_n 2, 1) := by decide +kernel
theorem dX8_begins__2 : decode cX8_begins_ 2 = .ok (.iload_n 2, 1) := by decide +kernel
theorem dX8_begins__3 : decode cX8_begins_ 3 = .ok (.sipush 288, 3) := by decide +kernel
theorem dX8_begins__6 : decode cX8_begins_ 6 = .ok (.if_icmp .ge 43, 3) := by decide +kernel
theorem dX8_begins__9 : decode cX8_begins_ 9 = .ok (.aload_n 0, 1) := by decide +kernel
theorem dX8_begins__10 : decode cX8_begins_ 10 = .ok (.getfield 99, 3) := by decide +kernel
theorem dX8_begins__13 : decode cX8_begins_ 13 = .ok (.iload_n 2, 1) := by decide +kernel
theorem dX8_begins__14 : decode cX8_begins_ 14 = .ok (.iload_n 1, 1) := by decide +kernel
theorem dX8_begins__15 : decode cX8_begins_ 15 = .ok (.ifCond .eq 11, 3) := by decide +kernel
theorem dX8_begins__18 : decode cX8_begins_ 18 = .ok (.iload_n 2, 1) := by decide +kernel
theorem dX8_begins__19 : decode cX8_begins_ 19 = .ok (.ifCond .ne 7, 3) := by decide +kernel
theorem dX8_begins__22 : decode cX8_begins_ 22 = .ok (.iconst 0, 1) := by decide +kernel
theorem dX8_begins__23 : decode cX8_begins_ 23 = .ok (.goto 19, 3) := by decide +kernel
theorem dX8_begins__26 : decode cX8_begins_ 26 = .ok (.iload_n 1, 1) := by decide +kernel
theorem dX8_begins__27 : decode cX8_begins_ 27 = .ok (.ifCond .eq 9, 3) := by decide +kernel
theorem dX8_begins__30 : decode cX8_begins_ 30 = .ok (.ldc_w 284, 3) := by decide +kernel
theorem dX8_begins__33 : decode cX8_begins_ 33 = .ok (.goto 9, 3) := by decide +kernel
theorem dX8_begins__36 : decode cX8_begins_ 36 = .ok (.aload_n 0, 1) := by decide +kernel
theorem dX8_begins__37 : decode cX8_begins_ 37 = .ok (.getfield 102, 3) := by decide +kernel
theorem dX8_begins__40 : decode cX8_begins_ 40 = .ok (.iload_n 2, 1) := by decide +kernel
theorem dX8_begins__41 : decode cX8_begins_ 41 = .ok (.iaload, 1) := by decide +kernel
theorem dX8_begins__42 : decode cX8_begins_ 42 = .ok (.iastore, 1) := by decide +kernel
theorem dX8_begins__43 : decode cX8_begins_ 43 = .ok (.iinc 2 1, 3) := by decide +kernel
theorem dX8_begins__46 : decode cX8_begins_ 46 = .ok (.goto (-44), 3) := by decide +kernel
theorem dX8_begins__49 : decode cX8_begins_ 49 = .ok (.return_, 1) := by decide +kernel
set_option maxRecDepth 20000 in
theorem ggX8_isDoneFor_X8_isEndOf : GoodIn wsX8_isDoneFor wsX8_isEndOf := goodIn_g _ [(8, 49)] (by exact rfl) (by decide +kernel)
set_option maxRecDepth 20000 in
theorem gX8_isDoneFor_X8_isEndOf : GoodIn wsX8_isDoneFor (wsV RX8 201 RX8 yX8_isEndOf wsX8_isEndOf) := goodIn_app (goodIn_of _ (by decide +kernel)) ggX8_isDoneFor_X8_isEndOf
theorem dX8_isDoneFor_0 : decode cX8_isDoneFor 0 = .ok (.iconst 0, 1) := by decide +kernel
theorem dX8_isDoneFor_1 : decode cX8_isDoneFor 1 = .ok (.istore_n 3, 1) := by decide +kernel
theorem dX8_isDoneFor_2 : decode cX8_isDoneFor 2 = .ok (.iconst 0, 1) := by decide +kernel
theorem dX8_isDoneFor_3 : decode cX8_isDoneFor 3 = .ok (.istore 4, 2) := by decide +kernel
theorem dX8_isDoneFor_5 : decode cX8_isDoneFor 5 = .ok (.iload 4, 2) := by decide +kernel
theorem dX8_isDoneFor_7 : decode cX8_isDoneFor 7 = .ok (.aload_n 0, 1) := by decide +kernel
theorem dX8_isDoneFor_8 : decode cX8_isDoneFor 8 = .ok (.getfield 13, 3) := by decide +kernel
theorem dX8_isDoneFor_11 : decode cX8_isDoneFor 11 = .ok (.iload_n 1, 1) := by decide +kernel
theorem dX8_isDoneFor_12 : decode cX8_isDoneFor 12 = .ok (.iaload, 1) := by decide +kernel
theorem dX8_isDoneFor_13 : decode cX8_isDoneFor 13 = .ok (.if_icmp .ge 48, 3) := by decide +kernel
theorem dX8_isDoneFor_16 : decode cX8_isDoneFor 16 = .ok (.iload_n 3, 1) := by decide +kernel
theorem dX8_isDoneFor_17 : decode cX8_isDoneFor 17 = .ok (.ifCond .ne 32, 3) := by decide +kernel
theorem dX8_isDoneFor_20 : decode cX8_isDoneFor 20 = .ok (.aload_n 0, 1) := by decide +kernel
theorem dX8_isDoneFor_21 : decode cX8_isDoneFor 21 = .ok (.iload_n 1, 1) := by decide +kernel
theorem dX8_isDoneFor_22 : decode cX8_isDoneFor 22 = .ok (.iload 4, 2) := by decide +kernel
theorem dX8_isDoneFor_24 : decode cX8_isDoneFor 24 = .ok (.invokevirtual 201, 3) := by decide +kernel
theorem dX8_isDoneFor_27 : decode cX8_isDoneFor 27 = .ok (.ifCond .eq 26, 3) := by decide +kernel
theorem dX8_isDoneFor_30 : decode cX8_isDoneFor 30 = .ok (.aload_n 0, 1) := by decide +kernel
theorem dX8_isDoneFor_31 : decode cX8_isDoneFor 31 = .ok (.getfield 99, 3) := by decide +kernel
theorem dX8_isDoneFor_34 : decode cX8_isDoneFor 34 = .ok (.bipush 32, 2) := by decide +kernel
theorem dX8_isDoneFor_36 : decode cX8_isDoneFor 36 = .ok (.aload_n 0, 1) := by decide +kernel
theorem dX8_isDoneFor_37 : decode cX8_isDoneFor 37 = .ok (.getfield 135, 3) := by decide +kernel
theorem dX8_isDoneFor_40 : decode cX8_isDoneFor 40 = .ok (.imul, 1) := by decide +kernel
theorem dX8_isDoneFor_41 : decode cX8_isDoneFor 41 = .ok (.iload 4, 2) := by decide +kernel
theorem dX8_isDoneFor_43 : decode cX8_isDoneFor 43 = .ok (.iadd, 1) := by decide +kernel
theorem dX8_isDoneFor_44 : decode cX8_isDoneFor 44 = .ok (.iaload, 1) := by decide +kernel
theorem dX8_isDoneFor_45 : decode cX8_isDoneFor 45 = .ok (.iload_n 2, 1) := by decide +kernel
theorem dX8_isDoneFor_46 : decode cX8_isDoneFor 46 = .ok (.if_icmp .ne 7, 3) := by decide +kernel
theorem dX8_isDoneFor_49 : decode cX8_isDoneFor 49 = .ok (.iconst 1, 1) := by decide +kernel
theorem dX8_isDoneFor_50 : decode cX8_isDoneFor 50 = .ok (.goto 4, 3) := by decide +kernel
theorem dX8_isDoneFor_53 : decode cX8_isDoneFor 53 = .ok (.iconst 0, 1) := by decide +kernel
theorem dX8_isDoneFor_54 : decode cX8_isDoneFor 54 = .ok (.istore_n 3, 1) := by decide +kernel
theorem dX8_isDoneFor_55 : decode cX8_isDoneFor 55 = .ok (.iinc 4 1, 3) := by decide +kernel
theorem dX8_isDoneFor_58 : decode cX8_isDoneFor 58 = .ok (.goto (-53), 3) := by decide +kernel
theorem dX8_isDoneFor_61 : decode cX8_isDoneFor 61 = .ok (.iload_n 3, 1) := by decide +kernel
theorem dX8_isDoneFor_62 : decode cX8_isDoneFor 62 = .ok (.ireturn, 1) := by decide +kernel
set_option maxRecDepth 20000 in
theorem ggX8_tellsBest_X8_begins_ : GoodIn wsX8_tellsBest wsX8_begins_ := goodIn_g _ [(8, 4), (50, 47)] (by exact rfl) (by decide +kernel)
set_option maxRecDepth 20000 in
theorem gX8_tellsBest_X8_begins_ : GoodIn wsX8_tellsBest (wsV RX8 324 RX8 yX8_begins_ wsX8_begins_) := goodIn_app (goodIn_of _ (by decide +kernel)) ggX8_tellsBest_X8_begins_
set_option maxRecDepth 20000 in
theorem ggX8_tellsBest_X8_closesHere : GoodIn wsX8_tellsBest wsX8_closesHere := goodIn_g _ [(15, 3), (9, 1), (18, 1), (10, 1), (19, 5), (7, 1), (24, 12), (50, 47)] (by exact rfl) (by decide +kernel)
set_option maxRecDepth 20000 in
theorem gX8_tellsBest_X8_closesHere : GoodIn wsX8_tellsBest (wsV RX8 327 RX8 yX8_closesHere wsX8_closesHere) := goodIn_app (goodIn_of _ (by decide +kernel)) ggX8_tellsBest_X8_closesHere
set_option maxRecDepth 20000 in
theorem ggX8_tellsBest_X8_isDoneFor : GoodIn wsX8_tellsBest wsX8_isDoneFor := goodIn_g _ [(39, 2), (9, 1), (17, 1), (41, 3), (7, 1), (44, 2), (50, 47)] (by exact rfl) (by decide +kernel)
set_option maxRecDepth 20000 in
theorem gX8_tellsBest_X8_isDoneFor : GoodIn wsX8_tellsBest (wsV RX8 330 RX8 yX8_isDoneFor wsX8_isDoneFor) := goodIn_app (goodIn_of _ (by decide +kernel)) ggX8_tellsBest_X8_isDoneFor
set_option maxRecDepth 20000 in
theorem ggX8_tellsBest_X8_goesHere : GoodIn wsX8_tellsBest wsX8_goesHere := goodIn_g _ [(49, 1), (11, 1), (10, 1), (16, 2), (9, 1), (18, 1), (1, 1), (20, 1), (19, 1), (21, 3), (7, 1), (24, 12), (50, 47)] (by exact rfl) (by decide +kernel)
set_option maxRecDepth 20000 in
theorem gX8_tellsBest_X8_goesHere : GoodIn wsX8_tellsBest (wsV RX8 333 RX8 yX8_goesHere wsX8_goesHere) := goodIn_app (goodIn_of _ (by decide +kernel)) ggX8_tellsBest_X8_goesHere
theorem dX8_tellsBest_0 : decode cX8_tellsBest 0 = .ok (.aload_n 0, 1) := by decide +kernel
theorem dX8_tellsBest_1 : decode cX8_tellsBest 1 = .ok (.getfield 96, 3) := by decide +kernel
theorem dX8_tellsBest_4 : decode cX8_tellsBest 4 = .ok (.iconst 0, 1) := by decide +kernel
theorem dX8_tellsBest_5 : decode cX8_tellsBest 5 = .ok (.iaload, 1) := by decide +kernel
theorem dX8_tellsBest_6 : decode cX8_tellsBest 6 = .ok (.istore_n 3, 1) := by decide +kernel
theorem dX8_tellsBest_7 : decode cX8_tellsBest 7 = .ok (.aload_n 0, 1) := by decide +kernel
theorem dX8_tellsBest_8 : decode cX8_tellsBest 8 = .ok (.iconst 1, 1) := by decide +kernel
theorem dX8_tellsBest_9 : decode cX8_tellsBest 9 = .ok (.invokevirtual 324, 3) := by decide +kernel
theorem dX8_tellsBest_12 : decode cX8_tellsBest 12 = .ok (.aload_n 0, 1) := by decide +kernel
theorem dX8_tellsBest_13 : decode cX8_tellsBest 13 = .ok (.iload_n 1, 1) := by decide +kernel
theorem dX8_tellsBest_14 : decode cX8_tellsBest 14 = .ok (.iload_n 2, 1) := by decide +kernel
theorem dX8_tellsBest_15 : decode cX8_tellsBest 15 = .ok (.invokevirtual 327, 3) := by decide +kernel
theorem dX8_tellsBest_18 : decode cX8_tellsBest 18 = .ok (.aload_n 0, 1) := by decide +kernel
theorem dX8_tellsBest_19 : decode cX8_tellsBest 19 = .ok (.iconst 0, 1) := by decide +kernel
theorem dX8_tellsBest_20 : decode cX8_tellsBest 20 = .ok (.putfield 314, 3) := by decide +kernel
theorem dX8_tellsBest_23 : decode cX8_tellsBest 23 = .ok (.aload_n 0, 1) := by decide +kernel
theorem dX8_tellsBest_24 : decode cX8_tellsBest 24 = .ok (.iload_n 1, 1) := by decide +kernel
theorem dX8_tellsBest_25 : decode cX8_tellsBest 25 = .ok (.iload_n 3, 1) := by decide +kernel
theorem dX8_tellsBest_26 : decode cX8_tellsBest 26 = .ok (.invokevirtual 330, 3) := by decide +kernel
theorem dX8_tellsBest_29 : decode cX8_tellsBest 29 = .ok (.ifCond .ne 59, 3) := by decide +kernel
theorem dX8_tellsBest_32 : decode cX8_tellsBest 32 = .ok (.iconst 0, 1) := by decide +kernel
theorem dX8_tellsBest_33 : decode cX8_tellsBest 33 = .ok (.istore 4, 2) := by decide +kernel
theorem dX8_tellsBest_35 : decode cX8_tellsBest 35 = .ok (.aload_n 0, 1) := by decide +kernel
theorem dX8_tellsBest_36 : decode cX8_tellsBest 36 = .ok (.iload_n 1, 1) := by decide +kernel
theorem dX8_tellsBest_37 : decode cX8_tellsBest 37 = .ok (.iload_n 2, 1) := by decide +kernel
theorem dX8_tellsBest_38 : decode cX8_tellsBest 38 = .ok (.iload 4, 2) := by decide +kernel
theorem dX8_tellsBest_40 : decode cX8_tellsBest 40 = .ok (.invokevirtual 333, 3) := by decide +kernel
theorem dX8_tellsBest_43 : decode cX8_tellsBest 43 = .ok (.iload_n 3, 1) := by decide +kernel
theorem dX8_tellsBest_44 : decode cX8_tellsBest 44 = .ok (.if_icmp .eq 9, 3) := by decide +kernel
theorem dX8_tellsBest_47 : decode cX8_tellsBest 47 = .ok (.iinc 4 1, 3) := by decide +kernel
theorem dX8_tellsBest_50 : decode cX8_tellsBest 50 = .ok (.goto (-15), 3) := by decide +kernel
theorem dX8_tellsBest_53 : decode cX8_tellsBest 53 = .ok (.aload_n 0, 1) := by decide +kernel
theorem dX8_tellsBest_54 : decode cX8_tellsBest 54 = .ok (.iconst 0, 1) := by decide +kernel
theorem dX8_tellsBest_55 : decode cX8_tellsBest 55 = .ok (.invokevirtual 324, 3) := by decide +kernel
theorem dX8_tellsBest_58 : decode cX8_tellsBest 58 = .ok (.aload_n 0, 1) := by decide +kernel
theorem dX8_tellsBest_59 : decode cX8_tellsBest 59 = .ok (.iload_n 1, 1) := by decide +kernel
theorem dX8_tellsBest_60 : decode cX8_tellsBest 60 = .ok (.iload_n 2, 1) := by decide +kernel
theorem dX8_tellsBest_61 : decode cX8_tellsBest 61 = .ok (.invokevirtual 327, 3) := by decide +kernel
theorem dX8_tellsBest_64 : decode cX8_tellsBest 64 = .ok (.aload_n 0, 1) := by decide +kernel
theorem dX8_tellsBest_65 : decode cX8_tellsBest 65 = .ok (.getfield 112, 3) := by decide +kernel
theorem dX8_tellsBest_68 : decode cX8_tellsBest 68 = .ok (.aload_n 0, 1) := by decide +kernel
theorem dX8_tellsBest_69 : decode cX8_tellsBest 69 = .ok (.getfield 314, 3) := by decide +kernel
theorem dX8_tellsBest_72 : decode cX8_tellsBest 72 = .ok (.iload 4, 2) := by decide +kernel
theorem dX8_tellsBest_74 : decode cX8_tellsBest 74 = .ok (.iastore, 1) := by decide +kernel
theorem dX8_tellsBest_75 : decode cX8_tellsBest 75 = .ok (.aload_n 0, 1) := by decide +kernel
theorem dX8_tellsBest_76 : decode cX8_tellsBest 76 = .ok (.dup, 1) := by decide +kernel
theorem dX8_tellsBest_77 : decode cX8_tellsBest 77 = .ok (.getfield 314, 3) := by decide +kernel
theorem dX8_tellsBest_80 : decode cX8_tellsBest 80 = .ok (.iconst 1, 1) := by decide +kernel
theorem dX8_tellsBest_81 : decode cX8_tellsBest 81 = .ok (.iadd, 1) := by decide +kernel
theorem dX8_tellsBest_82 : decode cX8_tellsBest 82 = .ok (.putfield 314, 3) := by decide +kernel
theorem dX8_tellsBest_85 : decode cX8_tellsBest 85 = .ok (.goto (-62), 3) := by decide +kernel
theorem dX8_tellsBest_88 : decode cX8_tellsBest 88 = .ok (.return_, 1) := by decide +kernel
set_option maxRecDepth 20000 in
theorem ggX8_best_X8_isMachine : GoodIn wsX8_best wsX8_isMachine := goodIn_g _ [(7, 4), (6, 1), (11, 1), (75, 47)] (by exact rfl) (by decide +kernel)
set_option maxRecDepth 20000 in
theorem gX8_best_X8_isMachine : GoodIn wsX8_best (wsV RX8 204 RX8 yX8_isMachine wsX8_isMachine) := goodIn_app (goodIn_of _ (by decide +kernel)) ggX8_best_X8_isMachine
set_option maxRecDepth 20000 in
theorem ggX8_best_X8_isFine : GoodIn wsX8_best wsX8_isFine := goodIn_g _ [(15, 2), (75, 47)] (by exact rfl) (by decide +kernel)
set_option maxRecDepth 20000 in
theorem gX8_best_X8_isFine : GoodIn wsX8_best (wsV RX8 138 RX8 yX8_isFine wsX8_isFine) := goodIn_app (goodIn_of _ (by decide +kernel)) ggX8_best_X8_isFine
set_option maxRecDepth 20000 in
theorem ggX8_best_X8_rests : GoodIn wsX8_best wsX8_rests := goodIn_g _ [(20, 1), (1, 1), (21, 1), (2, 1), (22, 7), (6, 1), (29, 13), (75, 47)] (by exact rfl) (by decide +kernel)
set_option maxRecDepth 20000 in
theorem gX8_best_X8_rests : GoodIn wsX8_best (wsV RX8 303 RX8 yX8_rests wsX8_rests) := goodIn_app (goodIn_of _ (by decide +kernel)) ggX8_best_X8_rests
set_option maxRecDepth 20000 in
theorem ggX8_best_X8_tellsBest : GoodIn wsX8_best wsX8_tellsBest := goodIn_g _ [(45, 1), (1, 1), (46, 5), (6, 1), (51, 2), (2, 1), (53, 5), (22, 1), (21, 1), (25, 1), (24, 1), (23, 1), (58, 4), (41, 1), (40, 1), (31, 9), (62, 5), (26, 5), (67, 4), (75, 47)] (by exact rfl) (by decide +kernel)
set_option maxRecDepth 20000 in
theorem gX8_best_X8_tellsBest : GoodIn wsX8_best (wsV RX8 336 RX8 yX8_tellsBest wsX8_tellsBest) := goodIn_app (goodIn_of _ (by decide +kernel)) ggX8_best_X8_tellsBest
set_option maxRecDepth 20000 in
theorem ggX8_best_X8_letterAt : GoodIn wsX8_best wsX8_letterAt := goodIn_g _ [(74, 1), (46, 2), (75, 47)] (by exact rfl) (by decide +kernel)
set_option maxRecDepth 20000 in
theorem gX8_best_X8_letterAt : GoodIn wsX8_best (wsV RX8 321 RX8 yX8_letterAt wsX8_letterAt) := goodIn_app (goodIn_of _ (by decide +kernel)) ggX8_best_X8_letterAt
theorem dX8_best_0 : decode cX8_best 0 = .ok (.aload_n 0, 1) := by decide +kernel
theorem dX8_best_1 : decode cX8_best 1 = .ok (.aload_n 0, 1) := by decide +kernel
theorem dX8_best_2 : decode cX8_best 2 = .ok (.iload_n 1, 1) := by decide +kernel
theorem dX8_best_3 : decode cX8_best 3 = .ok (.invokevirtual 204, 3) := by decide +kernel
theorem dX8_best_6 : decode cX8_best 6 = .ok (.ifCond .eq 11, 3) := by decide +kernel
theorem dX8_best_9 : decode cX8_best 9 = .ok (.iload_n 3, 1) := by decide +kernel
theorem dX8_best_10 : decode cX8_best 10 = .ok (.ifCond .lt 7, 3) := by decide +kernel
theorem dX8_best_13 : decode cX8_best 13 = .ok (.iconst 0, 1) := by decide +kernel
theorem dX8_best_14 : decode cX8_best 14 = .ok (.goto 4, 3) := by decide +kernel
theorem dX8_best_17 : decode cX8_best 17 = .ok (.iconst 1, 1) := by decide +kernel
theorem dX8_best_18 : decode cX8_best 18 = .ok (.invokevirtual 138, 3) := by decide +kernel
theorem dX8_best_21 : decode cX8_best 21 = .ok (.ifCond .ne 5, 3) := by decide +kernel
theorem dX8_best_24 : decode cX8_best 24 = .ok (.iconst 0, 1) := by decide +kernel
theorem dX8_best_25 : decode cX8_best 25 = .ok (.ireturn, 1) := by decide +kernel
theorem dX8_best_26 : decode cX8_best 26 = .ok (.aload_n 0, 1) := by decide +kernel
theorem dX8_best_27 : decode cX8_best 27 = .ok (.iload_n 1, 1) := by decide +kernel
theorem dX8_best_28 : decode cX8_best 28 = .ok (.iload_n 2, 1) := by decide +kernel
theorem dX8_best_29 : decode cX8_best 29 = .ok (.invokevirtual 303, 3) := by decide +kernel
theorem dX8_best_32 : decode cX8_best 32 = .ok (.aload_n 0, 1) := by decide +kernel
theorem dX8_best_33 : decode cX8_best 33 = .ok (.getfield 96, 3) := by decide +kernel
theorem dX8_best_36 : decode cX8_best 36 = .ok (.iconst 0, 1) := by decide +kernel
theorem dX8_best_37 : decode cX8_best 37 = .ok (.iaload, 1) := by decide +kernel
theorem dX8_best_38 : decode cX8_best 38 = .ok (.ldc_w 284, 3) := by decide +kernel
theorem dX8_best_41 : decode cX8_best 41 = .ok (.if_icmp .ne 5, 3) := by decide +kernel
theorem dX8_best_44 : decode cX8_best 44 = .ok (.iconst (-1), 1) := by decide +kernel
theorem dX8_best_45 : decode cX8_best 45 = .ok (.ireturn, 1) := by decide +kernel
theorem dX8_best_46 : decode cX8_best 46 = .ok (.aload_n 0, 1) := by decide +kernel
theorem dX8_best_47 : decode cX8_best 47 = .ok (.iload_n 1, 1) := by decide +kernel
theorem dX8_best_48 : decode cX8_best 48 = .ok (.iload_n 2, 1) := by decide +kernel
theorem dX8_best_49 : decode cX8_best 49 = .ok (.invokevirtual 336, 3) := by decide +kernel
theorem dX8_best_52 : decode cX8_best 52 = .ok (.aload_n 0, 1) := by decide +kernel
theorem dX8_best_53 : decode cX8_best 53 = .ok (.iload_n 3, 1) := by decide +kernel
theorem dX8_best_54 : decode cX8_best 54 = .ok (.invokevirtual 321, 3) := by decide +kernel
theorem dX8_best_57 : decode cX8_best 57 = .ok (.ireturn, 1) := by decide +kernel
theorem dX8_lesser_0 : decode cX8_lesser 0 = .ok (.iload_n 0, 1) := by decide +kernel
theorem dX8_lesser_1 : decode cX8_lesser 1 = .ok (.iload_n 1, 1) := by decide +kernel
theorem dX8_lesser_2 : decode cX8_lesser 2 = .ok (.if_icmp .ge 7, 3) := by decide +kernel
theorem dX8_lesser_5 : decode cX8_lesser 5 = .ok (.iload_n 0, 1) := by decide +kernel
theorem dX8_lesser_6 : decode cX8_lesser 6 = .ok (.goto 4, 3) := by decide +kernel
theorem dX8_lesser_9 : decode cX8_lesser 9 = .ok (.iload_n 1, 1) := by decide +kernel
theorem dX8_lesser_10 : decode cX8_lesser 10 = .ok (.ireturn, 1) := by decide +kernel
theorem dX8_plus_0 : decode cX8_plus 0 = .ok (.iload_n 1, 1) := by decide +kernel
theorem dX8_plus_1 : decode cX8_plus 1 = .ok (.ldc_w 284, 3) := by decide +kernel
theorem dX8_plus_4 : decode cX8_plus 4 = .ok (.if_icmp .ne 9, 3) := by decide +kernel
theorem dX8_plus_7 : decode cX8_plus 7 = .ok (.ldc_w 284, 3) := by decide +kernel
theorem dX8_plus_10 : decode cX8_plus 10 = .ok (.goto 6, 3) := by decide +kernel
theorem dX8_plus_13 : decode cX8_plus 13 = .ok (.iload_n 1, 1) := by decide +kernel
theorem dX8_plus_14 : decode cX8_plus 14 = .ok (.iload_n 2, 1) := by decide +kernel
theorem dX8_plus_15 : decode cX8_plus 15 = .ok (.iadd, 1) := by decide +kernel
theorem dX8_plus_16 : decode cX8_plus 16 = .ok (.ireturn, 1) := by decide +kernel
theorem dX8_change_0 : decode cX8_change 0 = .ok (.iload_n 2, 1) := by decide +kernel
theorem dX8_change_1 : decode cX8_change 1 = .ok (.aload_n 0, 1) := by decide +kernel
theorem dX8_change_2 : decode cX8_change 2 = .ok (.getfield 135, 3) := by decide +kernel
theorem dX8_change_5 : decode cX8_change 5 = .ok (.if_icmp .ge 22, 3) := by decide +kernel
theorem dX8_change_8 : decode cX8_change 8 = .ok (.aload_n 0, 1) := by decide +kernel
theorem dX8_change_9 : decode cX8_change 9 = .ok (.getfield 7, 3) := by decide +kernel
theorem dX8_change_12 : decode cX8_change 12 = .ok (.iload_n 2, 1) := by decide +kernel
theorem dX8_change_13 : decode cX8_change 13 = .ok (.iaload, 1) := by decide +kernel
theorem dX8_change_14 : decode cX8_change 14 = .ok (.aload_n 0, 1) := by decide +kernel
theorem dX8_change_15 : decode cX8_change 15 = .ok (.getfield 25, 3) := by decide +kernel
theorem dX8_change_18 : decode cX8_change 18 = .ok (.iload_n 1, 1) := by decide +kernel
theorem dX8_change_19 : decode cX8_change 19 = .ok (.iaload, 1) := by decide +kernel
theorem dX8_change_20 : decode cX8_change 20 = .ok (.if_icmp .ne 7, 3) := by decide +kernel
theorem dX8_change_23 : decode cX8_change 23 = .ok (.iconst 0, 1) := by decide +kernel
theorem dX8_change_24 : decode cX8_change 24 = .ok (.goto 4, 3) := by decide +kernel
theorem dX8_change_27 : decode cX8_change 27 = .ok (.iconst 1, 1) := by decide +kernel
theorem dX8_change_28 : decode cX8_change 28 = .ok (.ireturn, 1) := by decide +kernel
set_option maxRecDepth 20000 in
theorem ggX8_restsOfChanges_X8_isEndOf : GoodIn wsX8_restsOfChanges wsX8_isEndOf := goodIn_g _ [(12, 2), (26, 47)] (by exact rfl) (by decide +kernel)
set_option maxRecDepth 20000 in
theorem gX8_restsOfChanges_X8_isEndOf : GoodIn wsX8_restsOfChanges (wsV RX8 201 RX8 yX8_isEndOf wsX8_isEndOf) := goodIn_app (goodIn_of _ (by decide +kernel)) ggX8_restsOfChanges_X8_isEndOf
set_option maxRecDepth 20000 in
theorem ggX8_restsOfChanges_X8_plus : GoodIn wsX8_restsOfChanges wsX8_plus := goodIn_g _ [(17, 1), (3, 1)] (by exact rfl) (by decide +kernel)
set_option maxRecDepth 20000 in
theorem gX8_restsOfChanges_X8_plus : GoodIn wsX8_restsOfChanges (wsV RX8 339 RX8 yX8_plus wsX8_plus) := goodIn_app (goodIn_of _ (by decide +kernel)) ggX8_restsOfChanges_X8_plus
set_option maxRecDepth 20000 in
theorem ggX8_restsOfChanges_X8_lesser : GoodIn wsX8_restsOfChanges wsX8_lesser := goodIn_g _ [(20, 1)] (by exact rfl) (by decide +kernel)
set_option maxRecDepth 20000 in
theorem gX8_restsOfChanges_X8_lesser : GoodIn wsX8_restsOfChanges (va_wsS RX8 342 yX8_lesser wsX8_lesser) := goodIn_app (goodIn_of _ (by decide +kernel)) ggX8_restsOfChanges_X8_lesser
set_option maxRecDepth 20000 in
theorem ggX8_restsOfChanges_X8_change : GoodIn wsX8_restsOfChanges wsX8_change := goodIn_g _ [(24, 1), (2, 1), (25, 1), (5, 1), (26, 47)] (by exact rfl) (by decide +kernel)
set_option maxRecDepth 20000 in
theorem gX8_restsOfChanges_X8_change : GoodIn wsX8_restsOfChanges (wsV RX8 345 RX8 yX8_change wsX8_change) := goodIn_app (goodIn_of _ (by decide +kernel)) ggX8_restsOfChanges_X8_change
theorem dX8_restsOfChanges_0 : decode cX8_restsOfChanges 0 = .ok (.iconst 0, 1) := by decide +kernel
theorem dX8_restsOfChanges_1 : decode cX8_restsOfChanges 1 = .ok (.istore_n 2, 1) := by decide +kernel
theorem dX8_restsOfChanges_2 : decode cX8_restsOfChanges 2 = .ok (.iload_n 2, 1) := by decide +kernel
theorem dX8_restsOfChanges_3 : decode cX8_restsOfChanges 3 = .ok (.sipush 288, 3) := by decide +kernel
theorem dX8_restsOfChanges_6 : decode cX8_restsOfChanges 6 = .ok (.if_icmp .ge 45, 3) := by decide +kernel
theorem dX8_restsOfChanges_9 : decode cX8_restsOfChanges 9 = .ok (.aload_n 0, 1) := by decide +kernel
theorem dX8_restsOfChanges_10 : decode cX8_restsOfChanges 10 = .ok (.getfield 96, 3) := by decide +kernel
theorem dX8_restsOfChanges_13 : decode cX8_restsOfChanges 13 = .ok (.iload_n 2, 1) := by decide +kernel
theorem dX8_restsOfChanges_14 : decode cX8_restsOfChanges 14 = .ok (.iload_n 2, 1) := by decide +kernel
theorem dX8_restsOfChanges_15 : decode cX8_restsOfChanges 15 = .ok (.bipush 32, 2) := by decide +kernel
theorem dX8_restsOfChanges_17 : decode cX8_restsOfChanges 17 = .ok (.idiv, 1) := by decide +kernel
theorem dX8_restsOfChanges_18 : decode cX8_restsOfChanges 18 = .ok (.aload_n 0, 1) := by decide +kernel
theorem dX8_restsOfChanges_19 : decode cX8_restsOfChanges 19 = .ok (.getfield 135, 3) := by decide +kernel
theorem dX8_restsOfChanges_22 : decode cX8_restsOfChanges 22 = .ok (.if_icmp .ne 19, 3) := by decide +kernel
theorem dX8_restsOfChanges_25 : decode cX8_restsOfChanges 25 = .ok (.aload_n 0, 1) := by decide +kernel
theorem dX8_restsOfChanges_26 : decode cX8_restsOfChanges 26 = .ok (.iload_n 1, 1) := by decide +kernel
theorem dX8_restsOfChanges_27 : decode cX8_restsOfChanges 27 = .ok (.iload_n 2, 1) := by decide +kernel
theorem dX8_restsOfChanges_28 : decode cX8_restsOfChanges 28 = .ok (.bipush 32, 2) := by decide +kernel
theorem dX8_restsOfChanges_30 : decode cX8_restsOfChanges 30 = .ok (.irem, 1) := by decide +kernel
theorem dX8_restsOfChanges_31 : decode cX8_restsOfChanges 31 = .ok (.invokevirtual 201, 3) := by decide +kernel
theorem dX8_restsOfChanges_34 : decode cX8_restsOfChanges 34 = .ok (.ifCond .eq 7, 3) := by decide +kernel
theorem dX8_restsOfChanges_37 : decode cX8_restsOfChanges 37 = .ok (.iconst 0, 1) := by decide +kernel
theorem dX8_restsOfChanges_38 : decode cX8_restsOfChanges 38 = .ok (.goto 6, 3) := by decide +kernel
theorem dX8_restsOfChanges_41 : decode cX8_restsOfChanges 41 = .ok (.ldc_w 284, 3) := by decide +kernel
theorem dX8_restsOfChanges_44 : decode cX8_restsOfChanges 44 = .ok (.iastore, 1) := by decide +kernel
theorem dX8_restsOfChanges_45 : decode cX8_restsOfChanges 45 = .ok (.iinc 2 1, 3) := by decide +kernel
theorem dX8_restsOfChanges_48 : decode cX8_restsOfChanges 48 = .ok (.goto (-46), 3) := by decide +kernel
theorem dX8_restsOfChanges_51 : decode cX8_restsOfChanges 51 = .ok (.iconst 1, 1) := by decide +kernel
theorem dX8_restsOfChanges_52 : decode cX8_restsOfChanges 52 = .ok (.istore_n 2, 1) := by decide +kernel
theorem dX8_restsOfChanges_53 : decode cX8_restsOfChanges 53 = .ok (.iload_n 2, 1) := by decide +kernel
theorem dX8_restsOfChanges_54 : decode cX8_restsOfChanges 54 = .ok (.ifCond .eq 315, 3) := by decide +kernel
theorem dX8_restsOfChanges_57 : decode cX8_restsOfChanges 57 = .ok (.iconst 0, 1) := by decide +kernel
theorem dX8_restsOfChanges_58 : decode cX8_restsOfChanges 58 = .ok (.istore_n 2, 1) := by decide +kernel
theorem dX8_restsOfChanges_59 : decode cX8_restsOfChanges 59 = .ok (.iconst 0, 1) := by decide +kernel
theorem dX8_restsOfChanges_60 : decode cX8_restsOfChanges 60 = .ok (.istore_n 3, 1) := by decide +kernel
theorem dX8_restsOfChanges_61 : decode cX8_restsOfChanges 61 = .ok (.iload_n 3, 1) := by decide +kernel
theorem dX8_restsOfChanges_62 : decode cX8_restsOfChanges 62 = .ok (.bipush 32, 2) := by decide +kernel
theorem dX8_restsOfChanges_64 : decode cX8_restsOfChanges 64 = .ok (.aload_n 0, 1) := by decide +kernel
theorem dX8_restsOfChanges_65 : decode cX8_restsOfChanges 65 = .ok (.getfield 135, 3) := by decide +kernel
theorem dX8_restsOfChanges_68 : decode cX8_restsOfChanges 68 = .ok (.imul, 1) := by decide +kernel
theorem dX8_restsOfChanges_69 : decode cX8_restsOfChanges 69 = .ok (.if_icmp .ge 63, 3) := by decide +kernel
theorem dX8_restsOfChanges_72 : decode cX8_restsOfChanges 72 = .ok (.aload_n 0, 1) := by decide +kernel
theorem dX8_restsOfChanges_73 : decode cX8_restsOfChanges 73 = .ok (.aload_n 0, 1) := by decide +kernel
theorem dX8_restsOfChanges_74 : decode cX8_restsOfChanges 74 = .ok (.getfield 96, 3) := by decide +kernel
theorem dX8_restsOfChanges_77 : decode cX8_restsOfChanges 77 = .ok (.iload_n 3, 1) := by decide +kernel
theorem dX8_restsOfChanges_78 : decode cX8_restsOfChanges 78 = .ok (.bipush 32, 2) := by decide +kernel
theorem dX8_restsOfChanges_80 : decode cX8_restsOfChanges 80 = .ok (.iadd, 1) := by decide +kernel
theorem dX8_restsOfChanges_81 : decode cX8_restsOfChanges 81 = .ok (.iaload, 1) := by decide +kernel
theorem dX8_restsOfChanges_82 : decode cX8_restsOfChanges 82 = .ok (.iconst 1, 1) := by decide +kernel
theorem dX8_restsOfChanges_83 : decode cX8_restsOfChanges 83 = .ok (.invokevirtual 339, 3) := by decide +kernel
theorem dX8_restsOfChanges_86 : decode cX8_restsOfChanges 86 = .ok (.istore 4, 2) := by decide +kernel
theorem dX8_restsOfChanges_88 : decode cX8_restsOfChanges 88 = .ok (.iload_n 2, 1) := by decide +kernel
theorem dX8_restsOfChanges_89 : decode cX8_restsOfChanges 89 = .ok (.ifCond .ne 14, 3) := by decide +kernel
theorem dX8_restsOfChanges_92 : decode cX8_restsOfChanges 92 = .ok (.iload 4, 2) := by decide +kernel
theorem dX8_restsOfChanges_94 : decode cX8_restsOfChanges 94 = .ok (.aload_n 0, 1) := by decide +kernel
theorem dX8_restsOfChanges_95 : decode cX8_restsOfChanges 95 = .ok (.getfield 96, 3) := by decide +kernel
theorem dX8_restsOfChanges_98 : decode cX8_restsOfChanges 98 = .ok (.iload_n 3, 1) := by decide +kernel
theorem dX8_restsOfChanges_99 : decode cX8_restsOfChanges 99 = .ok (.iaload, 1) := by decide +kernel
theorem dX8_restsOfChanges_100 : decode cX8_restsOfChanges 100 = .ok (.if_icmp .ge 7, 3) := by decide +kernel
theorem dX8_restsOfChanges_103 : decode cX8_restsOfChanges 103 = .ok (.iconst 1, 1) := by decide +kernel
theorem dX8_restsOfChanges_104 : decode cX8_restsOfChanges 104 = .ok (.goto 4, 3) := by decide +kernel
theorem dX8_restsOfChanges_107 : decode cX8_restsOfChanges 107 = .ok (.iconst 0, 1) := by decide +kernel
theorem dX8_restsOfChanges_108 : decode cX8_restsOfChanges 108 = .ok (.istore_n 2, 1) := by decide +kernel
theorem dX8_restsOfChanges_109 : decode cX8_restsOfChanges 109 = .ok (.aload_n 0, 1) := by decide +kernel
theorem dX8_restsOfChanges_110 : decode cX8_restsOfChanges 110 = .ok (.getfield 96, 3) := by decide +kernel
theorem dX8_restsOfChanges_113 : decode cX8_restsOfChanges 113 = .ok (.iload_n 3, 1) := by decide +kernel
theorem dX8_restsOfChanges_114 : decode cX8_restsOfChanges 114 = .ok (.iload 4, 2) := by decide +kernel
theorem dX8_restsOfChanges_116 : decode cX8_restsOfChanges 116 = .ok (.aload_n 0, 1) := by decide +kernel
theorem dX8_restsOfChanges_117 : decode cX8_restsOfChanges 117 = .ok (.getfield 96, 3) := by decide +kernel
theorem dX8_restsOfChanges_120 : decode cX8_restsOfChanges 120 = .ok (.iload_n 3, 1) := by decide +kernel
theorem dX8_restsOfChanges_121 : decode cX8_restsOfChanges 121 = .ok (.iaload, 1) := by decide +kernel
theorem dX8_restsOfChanges_122 : decode cX8_restsOfChanges 122 = .ok (.invokestatic 342, 3) := by decide +kernel
theorem dX8_restsOfChanges_125 : decode cX8_restsOfChanges 125 = .ok (.iastore, 1) := by decide +kernel
theorem dX8_restsOfChanges_126 : decode cX8_restsOfChanges 126 = .ok (.iinc 3 1, 3) := by decide +kernel
theorem dX8_restsOfChanges_129 : decode cX8_restsOfChanges 129 = .ok (.goto (-68), 3) := by decide +kernel
theorem dX8_restsOfChanges_132 : decode cX8_restsOfChanges 132 = .ok (.sipush 160, 3) := by decide +kernel
theorem dX8_restsOfChanges_135 : decode cX8_restsOfChanges 135 = .ok (.iload_n 1, 1) := by decide +kernel
theorem dX8_restsOfChanges_136 : decode cX8_restsOfChanges 136 = .ok (.imul, 1) := by decide +kernel
theorem dX8_restsOfChanges_137 : decode cX8_restsOfChanges 137 = .ok (.istore_n 3, 1) := by decide +kernel
theorem dX8_restsOfChanges_138 : decode cX8_restsOfChanges 138 = .ok (.iload_n 3, 1) := by decide +kernel
theorem dX8_restsOfChanges_139 : decode cX8_restsOfChanges 139 = .ok (.sipush 160, 3) := by decide +kernel
theorem dX8_restsOfChanges_142 : decode cX8_restsOfChanges 142 = .ok (.iload_n 1, 1) := by decide +kernel
theorem dX8_restsOfChanges_143 : decode cX8_restsOfChanges 143 = .ok (.imul, 1) := by decide +kernel
theorem dX8_restsOfChanges_144 : decode cX8_restsOfChanges 144 = .ok (.aload_n 0, 1) := by decide +kernel
theorem dX8_restsOfChanges_145 : decode cX8_restsOfChanges 145 = .ok (.getfield 19, 3) := by decide +kernel
theorem dX8_restsOfChanges_148 : decode cX8_restsOfChanges 148 = .ok (.iload_n 1, 1) := by decide +kernel
theorem dX8_restsOfChanges_149 : decode cX8_restsOfChanges 149 = .ok (.iaload, 1) := by decide +kernel
theorem dX8_restsOfChanges_150 : decode cX8_restsOfChanges 150 = .ok (.iadd, 1) := by decide +kernel
theorem dX8_restsOfChanges_151 : decode cX8_restsOfChanges 151 = .ok (.if_icmp .ge 215, 3) := by decide +kernel
theorem dX8_restsOfChanges_154 : decode cX8_restsOfChanges 154 = .ok (.iconst 0, 1) := by decide +kernel
theorem dX8_restsOfChanges_155 : decode cX8_restsOfChanges 155 = .ok (.istore 4, 2) := by decide +kernel
theorem dX8_restsOfChanges_157 : decode cX8_restsOfChanges 157 = .ok (.iload 4, 2) := by decide +kernel
theorem dX8_restsOfChanges_159 : decode cX8_restsOfChanges 159 = .ok (.aload_n 0, 1) := by decide +kernel
theorem dX8_restsOfChanges_160 : decode cX8_restsOfChanges 160 = .ok (.getfield 135, 3) := by decide +kernel
theorem dX8_restsOfChanges_163 : decode cX8_restsOfChanges 163 = .ok (.if_icmp .gt 197, 3) := by decide +kernel
theorem dX8_restsOfChanges_166 : decode cX8_restsOfChanges 166 = .ok (.aload_n 0, 1) := by decide +kernel
theorem dX8_restsOfChanges_167 : decode cX8_restsOfChanges 167 = .ok (.getfield 25, 3) := by decide +kernel
theorem dX8_restsOfChanges_170 : decode cX8_restsOfChanges 170 = .ok (.iload_n 3, 1) := by decide +kernel
theorem dX8_restsOfChanges_171 : decode cX8_restsOfChanges 171 = .ok (.iaload, 1) := by decide +kernel
theorem dX8_restsOfChanges_172 : decode cX8_restsOfChanges 172 = .ok (.bipush 8, 2) := by decide +kernel
theorem dX8_restsOfChanges_174 : decode cX8_restsOfChanges 174 = .ok (.if_icmp .ne 23, 3) := by decide +kernel
theorem dX8_restsOfChanges_177 : decode cX8_restsOfChanges 177 = .ok (.aload_n 0, 1) := by decide +kernel
theorem dX8_restsOfChanges_178 : decode cX8_restsOfChanges 178 = .ok (.getfield 96, 3) := by decide +kernel
theorem dX8_restsOfChanges_181 : decode cX8_restsOfChanges 181 = .ok (.bipush 32, 2) := by decide +kernel
theorem dX8_restsOfChanges_183 : decode cX8_restsOfChanges 183 = .ok (.iload 4, 2) := by decide +kernel
theorem dX8_restsOfChanges_185 : decode cX8_restsOfChanges 185 = .ok (.imul, 1) := by decide +kernel
theorem dX8_restsOfChanges_186 : decode cX8_restsOfChanges 186 = .ok (.aload_n 0, 1) := by decide +kernel
theorem dX8_restsOfChanges_187 : decode cX8_restsOfChanges 187 = .ok (.getfield 34, 3) := by decide +kernel
theorem dX8_restsOfChanges_190 : decode cX8_restsOfChanges 190 = .ok (.iload_n 3, 1) := by decide +kernel
theorem dX8_restsOfChanges_191 : decode cX8_restsOfChanges 191 = .ok (.iaload, 1) := by decide +kernel
theorem dX8_restsOfChanges_192 : decode cX8_restsOfChanges 192 = .ok (.iadd, 1) := by decide +kernel
theorem dX8_restsOfChanges_193 : decode cX8_restsOfChanges 193 = .ok (.iaload, 1) := by decide +kernel
theorem dX8_restsOfChanges_194 : decode cX8_restsOfChanges 194 = .ok (.goto 25, 3) := by decide +kernel
theorem dX8_restsOfChanges_197 : decode cX8_restsOfChanges 197 = .ok (.aload_n 0, 1) := by decide +kernel
theorem dX8_restsOfChanges_198 : decode cX8_restsOfChanges 198 = .ok (.aload_n 0, 1) := by decide +kernel
theorem dX8_restsOfChanges_199 : decode cX8_restsOfChanges 199 = .ok (.getfield 96, 3) := by decide +kernel
theorem dX8_restsOfChanges_202 : decode cX8_restsOfChanges 202 = .ok (.bipush 32, 2) := by decide +kernel
theorem dX8_restsOfChanges_204 : decode cX8_restsOfChanges 204 = .ok (.iload 4, 2) := by decide +kernel
theorem dX8_restsOfChanges_206 : decode cX8_restsOfChanges 206 = .ok (.imul, 1) := by decide +kernel
theorem dX8_restsOfChanges_207 : decode cX8_restsOfChanges 207 = .ok (.aload_n 0, 1) := by decide +kernel
theorem dX8_restsOfChanges_208 : decode cX8_restsOfChanges 208 = .ok (.getfield 34, 3) := by decide +kernel
theorem dX8_restsOfChanges_211 : decode cX8_restsOfChanges 211 = .ok (.iload_n 3, 1) := by decide +kernel
theorem dX8_restsOfChanges_212 : decode cX8_restsOfChanges 212 = .ok (.iaload, 1) := by decide +kernel
theorem dX8_restsOfChanges_213 : decode cX8_restsOfChanges 213 = .ok (.iadd, 1) := by decide +kernel
theorem dX8_restsOfChanges_214 : decode cX8_restsOfChanges 214 = .ok (.iaload, 1) := by decide +kernel
theorem dX8_restsOfChanges_215 : decode cX8_restsOfChanges 215 = .ok (.iconst 1, 1) := by decide +kernel
theorem dX8_restsOfChanges_216 : decode cX8_restsOfChanges 216 = .ok (.invokevirtual 339, 3) := by decide +kernel
theorem dX8_restsOfChanges_219 : decode cX8_restsOfChanges 219 = .ok (.istore 5, 2) := by decide +kernel
theorem dX8_restsOfChanges_221 : decode cX8_restsOfChanges 221 = .ok (.aload_n 0, 1) := by decide +kernel
theorem dX8_restsOfChanges_222 : decode cX8_restsOfChanges 222 = .ok (.getfield 25, 3) := by decide +kernel
theorem dX8_restsOfChanges_225 : decode cX8_restsOfChanges 225 = .ok (.iload_n 3, 1) := by decide +kernel
theorem dX8_restsOfChanges_226 : decode cX8_restsOfChanges 226 = .ok (.iaload, 1) := by decide +kernel
theorem dX8_restsOfChanges_227 : decode cX8_restsOfChanges 227 = .ok (.bipush 8, 2) := by decide +kernel
