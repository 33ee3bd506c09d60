theorem dX8_rests_83 : decode cX8_rests 83 = .ok (.iconst 0, 1) := by decide +kernel
theorem dX8_rests_84 : decode cX8_rests 84 = .ok (.istore 5, 2) := by decide +kernel
theorem dX8_rests_86 : decode cX8_rests 86 = .ok (.iload 5, 2) := by decide +kernel
theorem dX8_rests_88 : decode cX8_rests 88 = .ok (.aload_n 0, 1) := by decide +kernel
theorem dX8_rests_89 : decode cX8_rests 89 = .ok (.getfield 135, 3) := by decide +kernel
theorem dX8_rests_92 : decode cX8_rests 92 = .ok (.if_icmp .gt 181, 3) := by decide +kernel
theorem dX8_rests_95 : decode cX8_rests 95 = .ok (.aload_n 0, 1) := by decide +kernel
theorem dX8_rests_96 : decode cX8_rests 96 = .ok (.iload 4, 2) := by decide +kernel
theorem dX8_rests_98 : decode cX8_rests 98 = .ok (.iload 5, 2) := by decide +kernel
theorem dX8_rests_100 : decode cX8_rests 100 = .ok (.iload_n 2, 1) := by decide +kernel
theorem dX8_rests_101 : decode cX8_rests 101 = .ok (.invokevirtual 285, 3) := by decide +kernel
theorem dX8_rests_104 : decode cX8_rests 104 = .ok (.istore 6, 2) := by decide +kernel
theorem dX8_rests_106 : decode cX8_rests 106 = .ok (.iload 6, 2) := by decide +kernel
theorem dX8_rests_108 : decode cX8_rests 108 = .ok (.iconst (-1), 1) := by decide +kernel
theorem dX8_rests_109 : decode cX8_rests 109 = .ok (.if_icmp .eq 27, 3) := by decide +kernel
theorem dX8_rests_112 : decode cX8_rests 112 = .ok (.aload_n 0, 1) := by decide +kernel
theorem dX8_rests_113 : decode cX8_rests 113 = .ok (.getfield 96, 3) := by decide +kernel
theorem dX8_rests_116 : decode cX8_rests 116 = .ok (.bipush 32, 2) := by decide +kernel
theorem dX8_rests_118 : decode cX8_rests 118 = .ok (.iload 6, 2) := by decide +kernel
theorem dX8_rests_120 : decode cX8_rests 120 = .ok (.imul, 1) := by decide +kernel
theorem dX8_rests_121 : decode cX8_rests 121 = .ok (.aload_n 0, 1) := by decide +kernel
theorem dX8_rests_122 : decode cX8_rests 122 = .ok (.getfield 34, 3) := by decide +kernel
theorem dX8_rests_125 : decode cX8_rests 125 = .ok (.iload 4, 2) := by decide +kernel
theorem dX8_rests_127 : decode cX8_rests 127 = .ok (.iaload, 1) := by decide +kernel
theorem dX8_rests_128 : decode cX8_rests 128 = .ok (.iadd, 1) := by decide +kernel
theorem dX8_rests_129 : decode cX8_rests 129 = .ok (.iaload, 1) := by decide +kernel
theorem dX8_rests_130 : decode cX8_rests 130 = .ok (.ldc_w 284, 3) := by decide +kernel
theorem dX8_rests_133 : decode cX8_rests 133 = .ok (.if_icmp .ne 9, 3) := by decide +kernel
theorem dX8_rests_136 : decode cX8_rests 136 = .ok (.ldc_w 284, 3) := by decide +kernel
theorem dX8_rests_139 : decode cX8_rests 139 = .ok (.goto 29, 3) := by decide +kernel
theorem dX8_rests_142 : decode cX8_rests 142 = .ok (.aload_n 0, 1) := by decide +kernel
theorem dX8_rests_143 : decode cX8_rests 143 = .ok (.getfield 96, 3) := by decide +kernel
theorem dX8_rests_146 : decode cX8_rests 146 = .ok (.bipush 32, 2) := by decide +kernel
theorem dX8_rests_148 : decode cX8_rests 148 = .ok (.iload 6, 2) := by decide +kernel
theorem dX8_rests_150 : decode cX8_rests 150 = .ok (.imul, 1) := by decide +kernel
theorem dX8_rests_151 : decode cX8_rests 151 = .ok (.aload_n 0, 1) := by decide +kernel
theorem dX8_rests_152 : decode cX8_rests 152 = .ok (.getfield 34, 3) := by decide +kernel
theorem dX8_rests_155 : decode cX8_rests 155 = .ok (.iload 4, 2) := by decide +kernel
theorem dX8_rests_157 : decode cX8_rests 157 = .ok (.iaload, 1) := by decide +kernel
theorem dX8_rests_158 : decode cX8_rests 158 = .ok (.iadd, 1) := by decide +kernel
theorem dX8_rests_159 : decode cX8_rests 159 = .ok (.iaload, 1) := by decide +kernel
theorem dX8_rests_160 : decode cX8_rests 160 = .ok (.aload_n 0, 1) := by decide +kernel
theorem dX8_rests_161 : decode cX8_rests 161 = .ok (.getfield 31, 3) := by decide +kernel
theorem dX8_rests_164 : decode cX8_rests 164 = .ok (.iload 4, 2) := by decide +kernel
theorem dX8_rests_166 : decode cX8_rests 166 = .ok (.iaload, 1) := by decide +kernel
theorem dX8_rests_167 : decode cX8_rests 167 = .ok (.iadd, 1) := by decide +kernel
theorem dX8_rests_168 : decode cX8_rests 168 = .ok (.istore 7, 2) := by decide +kernel
theorem dX8_rests_170 : decode cX8_rests 170 = .ok (.iload_n 3, 1) := by decide +kernel
theorem dX8_rests_171 : decode cX8_rests 171 = .ok (.ifCond .ne 26, 3) := by decide +kernel
theorem dX8_rests_174 : decode cX8_rests 174 = .ok (.iload 7, 2) := by decide +kernel
theorem dX8_rests_176 : decode cX8_rests 176 = .ok (.aload_n 0, 1) := by decide +kernel
theorem dX8_rests_177 : decode cX8_rests 177 = .ok (.getfield 96, 3) := by decide +kernel
theorem dX8_rests_180 : decode cX8_rests 180 = .ok (.bipush 32, 2) := by decide +kernel
theorem dX8_rests_182 : decode cX8_rests 182 = .ok (.iload 5, 2) := by decide +kernel
theorem dX8_rests_184 : decode cX8_rests 184 = .ok (.imul, 1) := by decide +kernel
theorem dX8_rests_185 : decode cX8_rests 185 = .ok (.aload_n 0, 1) := by decide +kernel
theorem dX8_rests_186 : decode cX8_rests 186 = .ok (.getfield 22, 3) := by decide +kernel
theorem dX8_rests_189 : decode cX8_rests 189 = .ok (.iload 4, 2) := by decide +kernel
theorem dX8_rests_191 : decode cX8_rests 191 = .ok (.iaload, 1) := by decide +kernel
theorem dX8_rests_192 : decode cX8_rests 192 = .ok (.iadd, 1) := by decide +kernel
theorem dX8_rests_193 : decode cX8_rests 193 = .ok (.iaload, 1) := by decide +kernel
theorem dX8_rests_194 : decode cX8_rests 194 = .ok (.if_icmp .ge 7, 3) := by decide +kernel
theorem dX8_rests_197 : decode cX8_rests 197 = .ok (.iconst 1, 1) := by decide +kernel
theorem dX8_rests_198 : decode cX8_rests 198 = .ok (.goto 4, 3) := by decide +kernel
theorem dX8_rests_201 : decode cX8_rests 201 = .ok (.iconst 0, 1) := by decide +kernel
theorem dX8_rests_202 : decode cX8_rests 202 = .ok (.istore_n 3, 1) := by decide +kernel
theorem dX8_rests_203 : decode cX8_rests 203 = .ok (.aload_n 0, 1) := by decide +kernel
theorem dX8_rests_204 : decode cX8_rests 204 = .ok (.getfield 96, 3) := by decide +kernel
theorem dX8_rests_207 : decode cX8_rests 207 = .ok (.bipush 32, 2) := by decide +kernel
theorem dX8_rests_209 : decode cX8_rests 209 = .ok (.iload 5, 2) := by decide +kernel
theorem dX8_rests_211 : decode cX8_rests 211 = .ok (.imul, 1) := by decide +kernel
theorem dX8_rests_212 : decode cX8_rests 212 = .ok (.aload_n 0, 1) := by decide +kernel
theorem dX8_rests_213 : decode cX8_rests 213 = .ok (.getfield 22, 3) := by decide +kernel
theorem dX8_rests_216 : decode cX8_rests 216 = .ok (.iload 4, 2) := by decide +kernel
theorem dX8_rests_218 : decode cX8_rests 218 = .ok (.iaload, 1) := by decide +kernel
theorem dX8_rests_219 : decode cX8_rests 219 = .ok (.iadd, 1) := by decide +kernel
theorem dX8_rests_220 : decode cX8_rests 220 = .ok (.iload 7, 2) := by decide +kernel
theorem dX8_rests_222 : decode cX8_rests 222 = .ok (.aload_n 0, 1) := by decide +kernel
theorem dX8_rests_223 : decode cX8_rests 223 = .ok (.getfield 96, 3) := by decide +kernel
theorem dX8_rests_226 : decode cX8_rests 226 = .ok (.bipush 32, 2) := by decide +kernel
theorem dX8_rests_228 : decode cX8_rests 228 = .ok (.iload 5, 2) := by decide +kernel
theorem dX8_rests_230 : decode cX8_rests 230 = .ok (.imul, 1) := by decide +kernel
theorem dX8_rests_231 : decode cX8_rests 231 = .ok (.aload_n 0, 1) := by decide +kernel
theorem dX8_rests_232 : decode cX8_rests 232 = .ok (.getfield 22, 3) := by decide +kernel
theorem dX8_rests_235 : decode cX8_rests 235 = .ok (.iload 4, 2) := by decide +kernel
theorem dX8_rests_237 : decode cX8_rests 237 = .ok (.iaload, 1) := by decide +kernel
theorem dX8_rests_238 : decode cX8_rests 238 = .ok (.iadd, 1) := by decide +kernel
theorem dX8_rests_239 : decode cX8_rests 239 = .ok (.iaload, 1) := by decide +kernel
theorem dX8_rests_240 : decode cX8_rests 240 = .ok (.if_icmp .ge 8, 3) := by decide +kernel
theorem dX8_rests_243 : decode cX8_rests 243 = .ok (.iload 7, 2) := by decide +kernel
theorem dX8_rests_245 : decode cX8_rests 245 = .ok (.goto 21, 3) := by decide +kernel
theorem dX8_rests_248 : decode cX8_rests 248 = .ok (.aload_n 0, 1) := by decide +kernel
theorem dX8_rests_249 : decode cX8_rests 249 = .ok (.getfield 96, 3) := by decide +kernel
theorem dX8_rests_252 : decode cX8_rests 252 = .ok (.bipush 32, 2) := by decide +kernel
theorem dX8_rests_254 : decode cX8_rests 254 = .ok (.iload 5, 2) := by decide +kernel
theorem dX8_rests_256 : decode cX8_rests 256 = .ok (.imul, 1) := by decide +kernel
theorem dX8_rests_257 : decode cX8_rests 257 = .ok (.aload_n 0, 1) := by decide +kernel
theorem dX8_rests_258 : decode cX8_rests 258 = .ok (.getfield 22, 3) := by decide +kernel
theorem dX8_rests_261 : decode cX8_rests 261 = .ok (.iload 4, 2) := by decide +kernel
theorem dX8_rests_263 : decode cX8_rests 263 = .ok (.iaload, 1) := by decide +kernel
theorem dX8_rests_264 : decode cX8_rests 264 = .ok (.iadd, 1) := by decide +kernel
theorem dX8_rests_265 : decode cX8_rests 265 = .ok (.iaload, 1) := by decide +kernel
theorem dX8_rests_266 : decode cX8_rests 266 = .ok (.iastore, 1) := by decide +kernel
theorem dX8_rests_267 : decode cX8_rests 267 = .ok (.iinc 5 1, 3) := by decide +kernel
theorem dX8_rests_270 : decode cX8_rests 270 = .ok (.goto (-184), 3) := by decide +kernel
theorem dX8_rests_273 : decode cX8_rests 273 = .ok (.iinc 4 1, 3) := by decide +kernel
theorem dX8_rests_276 : decode cX8_rests 276 = .ok (.goto (-210), 3) := by decide +kernel
theorem dX8_rests_279 : decode cX8_rests 279 = .ok (.goto (-226), 3) := by decide +kernel
theorem dX8_rests_282 : decode cX8_rests 282 = .ok (.return_, 1) := by decide +kernel
set_option maxRecDepth 20000 in
theorem ggX8_closes_X8_outOf : GoodIn wsX8_closes wsX8_outOf := goodIn_r _ [7, 8, 9, 28, 29, 30, 31, 32, 33, 34, 35, 36, 37, 38, 39, 40, 41, 42, 43, 44, 45, 46, 47, 48, 49, 50, 51, 52, 53, 54, 55, 56, 57, 58, 59, 60, 61, 62, 63, 64, 65, 66, 67, 68, 69, 70, 71, 72, 73, 74] rfl (by decide +kernel)
set_option maxRecDepth 20000 in
theorem gX8_closes_X8_outOf : GoodIn wsX8_closes (wsV RX8 289 RX8 yX8_outOf wsX8_outOf) := goodIn_app (goodIn_of _ (by decide +kernel)) ggX8_closes_X8_outOf
set_option maxRecDepth 20000 in
theorem ggX8_closes_X8_goesOn : GoodIn wsX8_closes wsX8_goesOn := goodIn_r _ [13, 14, 15, 16, 17, 18, 19, 20, 21, 6, 22, 2, 23, 24, 25, 26, 27, 9, 8, 28, 29, 30, 31, 32, 33, 34, 35, 36, 37, 38, 39, 40, 41, 42, 43, 44, 45, 46, 47, 48, 49, 50, 51, 52, 53, 54, 55, 56, 57, 58, 59, 60, 61, 62, 63, 64, 65, 66, 67, 68, 69, 70, 71, 72, 73, 74] rfl (by decide +kernel)
set_option maxRecDepth 20000 in
theorem gX8_closes_X8_goesOn : GoodIn wsX8_closes (wsV RX8 292 RX8 yX8_goesOn wsX8_goesOn) := goodIn_app (goodIn_of _ (by decide +kernel)) ggX8_closes_X8_goesOn
theorem dX8_closes_0 : decode cX8_closes 0 = .ok (.iconst 1, 1) := by decide +kernel
theorem dX8_closes_1 : decode cX8_closes 1 = .ok (.istore 4, 2) := by decide +kernel
theorem dX8_closes_3 : decode cX8_closes 3 = .ok (.iload 4, 2) := by decide +kernel
theorem dX8_closes_5 : decode cX8_closes 5 = .ok (.ifCond .eq 96, 3) := by decide +kernel
theorem dX8_closes_8 : decode cX8_closes 8 = .ok (.iconst 0, 1) := by decide +kernel
theorem dX8_closes_9 : decode cX8_closes 9 = .ok (.istore 4, 2) := by decide +kernel
theorem dX8_closes_11 : decode cX8_closes 11 = .ok (.sipush 160, 3) := by decide +kernel
theorem dX8_closes_14 : decode cX8_closes 14 = .ok (.iload_n 1, 1) := by decide +kernel
theorem dX8_closes_15 : decode cX8_closes 15 = .ok (.imul, 1) := by decide +kernel
theorem dX8_closes_16 : decode cX8_closes 16 = .ok (.istore 5, 2) := by decide +kernel
theorem dX8_closes_18 : decode cX8_closes 18 = .ok (.iload 5, 2) := by decide +kernel
theorem dX8_closes_20 : decode cX8_closes 20 = .ok (.sipush 160, 3) := by decide +kernel
theorem dX8_closes_23 : decode cX8_closes 23 = .ok (.iload_n 1, 1) := by decide +kernel
theorem dX8_closes_24 : decode cX8_closes 24 = .ok (.imul, 1) := by decide +kernel
theorem dX8_closes_25 : decode cX8_closes 25 = .ok (.aload_n 0, 1) := by decide +kernel
theorem dX8_closes_26 : decode cX8_closes 26 = .ok (.getfield 19, 3) := by decide +kernel
theorem dX8_closes_29 : decode cX8_closes 29 = .ok (.iload_n 1, 1) := by decide +kernel
theorem dX8_closes_30 : decode cX8_closes 30 = .ok (.iaload, 1) := by decide +kernel
theorem dX8_closes_31 : decode cX8_closes 31 = .ok (.iadd, 1) := by decide +kernel
theorem dX8_closes_32 : decode cX8_closes 32 = .ok (.if_icmp .ge 66, 3) := by decide +kernel
theorem dX8_closes_35 : decode cX8_closes 35 = .ok (.iconst 0, 1) := by decide +kernel
theorem dX8_closes_36 : decode cX8_closes 36 = .ok (.istore 6, 2) := by decide +kernel
theorem dX8_closes_38 : decode cX8_closes 38 = .ok (.iload 6, 2) := by decide +kernel
theorem dX8_closes_40 : decode cX8_closes 40 = .ok (.aload_n 0, 1) := by decide +kernel
theorem dX8_closes_41 : decode cX8_closes 41 = .ok (.getfield 135, 3) := by decide +kernel
theorem dX8_closes_44 : decode cX8_closes 44 = .ok (.if_icmp .gt 48, 3) := by decide +kernel
theorem dX8_closes_47 : decode cX8_closes 47 = .ok (.aload_n 0, 1) := by decide +kernel
theorem dX8_closes_48 : decode cX8_closes 48 = .ok (.iload 5, 2) := by decide +kernel
theorem dX8_closes_50 : decode cX8_closes 50 = .ok (.iload_n 2, 1) := by decide +kernel
theorem dX8_closes_51 : decode cX8_closes 51 = .ok (.invokevirtual 289, 3) := by decide +kernel
theorem dX8_closes_54 : decode cX8_closes 54 = .ok (.bipush 8, 2) := by decide +kernel
theorem dX8_closes_56 : decode cX8_closes 56 = .ok (.if_icmp .ne 36, 3) := by decide +kernel
theorem dX8_closes_59 : decode cX8_closes 59 = .ok (.aload_n 0, 1) := by decide +kernel
theorem dX8_closes_60 : decode cX8_closes 60 = .ok (.iload_n 1, 1) := by decide +kernel
theorem dX8_closes_61 : decode cX8_closes 61 = .ok (.iload_n 2, 1) := by decide +kernel
theorem dX8_closes_62 : decode cX8_closes 62 = .ok (.iload_n 3, 1) := by decide +kernel
theorem dX8_closes_63 : decode cX8_closes 63 = .ok (.iload_n 3, 1) := by decide +kernel
theorem dX8_closes_64 : decode cX8_closes 64 = .ok (.iload 5, 2) := by decide +kernel
theorem dX8_closes_66 : decode cX8_closes 66 = .ok (.iload 6, 2) := by decide +kernel
theorem dX8_closes_68 : decode cX8_closes 68 = .ok (.invokevirtual 292, 3) := by decide +kernel
theorem dX8_closes_71 : decode cX8_closes 71 = .ok (.ifCond .ne 8, 3) := by decide +kernel
theorem dX8_closes_74 : decode cX8_closes 74 = .ok (.iload 4, 2) := by decide +kernel
theorem dX8_closes_76 : decode cX8_closes 76 = .ok (.ifCond .eq 7, 3) := by decide +kernel
theorem dX8_closes_79 : decode cX8_closes 79 = .ok (.iconst 1, 1) := by decide +kernel
theorem dX8_closes_80 : decode cX8_closes 80 = .ok (.goto 4, 3) := by decide +kernel
theorem dX8_closes_83 : decode cX8_closes 83 = .ok (.iconst 0, 1) := by decide +kernel
theorem dX8_closes_84 : decode cX8_closes 84 = .ok (.istore 4, 2) := by decide +kernel
theorem dX8_closes_86 : decode cX8_closes 86 = .ok (.iinc 6 1, 3) := by decide +kernel
theorem dX8_closes_89 : decode cX8_closes 89 = .ok (.goto (-51), 3) := by decide +kernel
theorem dX8_closes_92 : decode cX8_closes 92 = .ok (.iinc 5 1, 3) := by decide +kernel
theorem dX8_closes_95 : decode cX8_closes 95 = .ok (.goto (-77), 3) := by decide +kernel
theorem dX8_closes_98 : decode cX8_closes 98 = .ok (.goto (-95), 3) := by decide +kernel
theorem dX8_closes_101 : decode cX8_closes 101 = .ok (.return_, 1) := by decide +kernel
set_option maxRecDepth 20000 in
theorem ggX8_goesOn_X8_behind : GoodIn wsX8_goesOn wsX8_behind := goodIn_r _ [10, 11, 12, 13, 14, 15, 9, 16, 17, 18, 19, 20, 21, 22, 23, 24, 25, 26, 27, 28, 29, 30, 31, 32, 33, 34, 35, 36, 37, 38, 39, 40, 41, 42, 43, 44, 45, 46, 47, 48, 49, 50, 51, 52, 53, 54, 55, 56, 57, 58, 59, 60, 61, 62, 63, 64, 65] rfl (by decide +kernel)
set_option maxRecDepth 20000 in
theorem gX8_goesOn_X8_behind : GoodIn wsX8_goesOn (wsV RX8 285 RX8 yX8_behind wsX8_behind) := goodIn_app (goodIn_of _ (by decide +kernel)) ggX8_goesOn_X8_behind
theorem dX8_goesOn_0 : decode cX8_goesOn 0 = .ok (.aload_n 0, 1) := by decide +kernel
theorem dX8_goesOn_1 : decode cX8_goesOn 1 = .ok (.getfield 106, 3) := by decide +kernel
theorem dX8_goesOn_4 : decode cX8_goesOn 4 = .ok (.sipush 288, 3) := by decide +kernel
theorem dX8_goesOn_7 : decode cX8_goesOn 7 = .ok (.iload_n 3, 1) := by decide +kernel
theorem dX8_goesOn_8 : decode cX8_goesOn 8 = .ok (.imul, 1) := by decide +kernel
theorem dX8_goesOn_9 : decode cX8_goesOn 9 = .ok (.bipush 32, 2) := by decide +kernel
theorem dX8_goesOn_11 : decode cX8_goesOn 11 = .ok (.iload 6, 2) := by decide +kernel
theorem dX8_goesOn_13 : decode cX8_goesOn 13 = .ok (.imul, 1) := by decide +kernel
theorem dX8_goesOn_14 : decode cX8_goesOn 14 = .ok (.iadd, 1) := by decide +kernel
theorem dX8_goesOn_15 : decode cX8_goesOn 15 = .ok (.aload_n 0, 1) := by decide +kernel
theorem dX8_goesOn_16 : decode cX8_goesOn 16 = .ok (.getfield 22, 3) := by decide +kernel
theorem dX8_goesOn_19 : decode cX8_goesOn 19 = .ok (.iload 5, 2) := by decide +kernel
theorem dX8_goesOn_21 : decode cX8_goesOn 21 = .ok (.iaload, 1) := by decide +kernel
theorem dX8_goesOn_22 : decode cX8_goesOn 22 = .ok (.iadd, 1) := by decide +kernel
theorem dX8_goesOn_23 : decode cX8_goesOn 23 = .ok (.baload, 1) := by decide +kernel
theorem dX8_goesOn_24 : decode cX8_goesOn 24 = .ok (.ifCond .eq 15, 3) := by decide +kernel
theorem dX8_goesOn_27 : decode cX8_goesOn 27 = .ok (.aload_n 0, 1) := by decide +kernel
theorem dX8_goesOn_28 : decode cX8_goesOn 28 = .ok (.iload 5, 2) := by decide +kernel
theorem dX8_goesOn_30 : decode cX8_goesOn 30 = .ok (.iload 6, 2) := by decide +kernel
theorem dX8_goesOn_32 : decode cX8_goesOn 32 = .ok (.iload_n 2, 1) := by decide +kernel
theorem dX8_goesOn_33 : decode cX8_goesOn 33 = .ok (.invokevirtual 285, 3) := by decide +kernel
theorem dX8_goesOn_36 : decode cX8_goesOn 36 = .ok (.goto 4, 3) := by decide +kernel
theorem dX8_goesOn_39 : decode cX8_goesOn 39 = .ok (.iconst (-1), 1) := by decide +kernel
theorem dX8_goesOn_40 : decode cX8_goesOn 40 = .ok (.istore 7, 2) := by decide +kernel
theorem dX8_goesOn_42 : decode cX8_goesOn 42 = .ok (.iload 7, 2) := by decide +kernel
theorem dX8_goesOn_44 : decode cX8_goesOn 44 = .ok (.iconst (-1), 1) := by decide +kernel
theorem dX8_goesOn_45 : decode cX8_goesOn 45 = .ok (.if_icmp .eq 59, 3) := by decide +kernel
theorem dX8_goesOn_48 : decode cX8_goesOn 48 = .ok (.aload_n 0, 1) := by decide +kernel
theorem dX8_goesOn_49 : decode cX8_goesOn 49 = .ok (.getfield 96, 3) := by decide +kernel
theorem dX8_goesOn_52 : decode cX8_goesOn 52 = .ok (.bipush 32, 2) := by decide +kernel
theorem dX8_goesOn_54 : decode cX8_goesOn 54 = .ok (.iload 7, 2) := by decide +kernel
theorem dX8_goesOn_56 : decode cX8_goesOn 56 = .ok (.imul, 1) := by decide +kernel
theorem dX8_goesOn_57 : decode cX8_goesOn 57 = .ok (.aload_n 0, 1) := by decide +kernel
theorem dX8_goesOn_58 : decode cX8_goesOn 58 = .ok (.getfield 34, 3) := by decide +kernel
theorem dX8_goesOn_61 : decode cX8_goesOn 61 = .ok (.iload 5, 2) := by decide +kernel
theorem dX8_goesOn_63 : decode cX8_goesOn 63 = .ok (.iaload, 1) := by decide +kernel
theorem dX8_goesOn_64 : decode cX8_goesOn 64 = .ok (.iadd, 1) := by decide +kernel
theorem dX8_goesOn_65 : decode cX8_goesOn 65 = .ok (.iaload, 1) := by decide +kernel
theorem dX8_goesOn_66 : decode cX8_goesOn 66 = .ok (.ldc_w 284, 3) := by decide +kernel
theorem dX8_goesOn_69 : decode cX8_goesOn 69 = .ok (.if_icmp .eq 35, 3) := by decide +kernel
theorem dX8_goesOn_72 : decode cX8_goesOn 72 = .ok (.aload_n 0, 1) := by decide +kernel
theorem dX8_goesOn_73 : decode cX8_goesOn 73 = .ok (.getfield 106, 3) := by decide +kernel
theorem dX8_goesOn_76 : decode cX8_goesOn 76 = .ok (.sipush 288, 3) := by decide +kernel
theorem dX8_goesOn_79 : decode cX8_goesOn 79 = .ok (.iload 4, 2) := by decide +kernel
theorem dX8_goesOn_81 : decode cX8_goesOn 81 = .ok (.imul, 1) := by decide +kernel
theorem dX8_goesOn_82 : decode cX8_goesOn 82 = .ok (.bipush 32, 2) := by decide +kernel
theorem dX8_goesOn_84 : decode cX8_goesOn 84 = .ok (.iload 7, 2) := by decide +kernel
theorem dX8_goesOn_86 : decode cX8_goesOn 86 = .ok (.imul, 1) := by decide +kernel
theorem dX8_goesOn_87 : decode cX8_goesOn 87 = .ok (.iadd, 1) := by decide +kernel
theorem dX8_goesOn_88 : decode cX8_goesOn 88 = .ok (.aload_n 0, 1) := by decide +kernel
theorem dX8_goesOn_89 : decode cX8_goesOn 89 = .ok (.getfield 34, 3) := by decide +kernel
theorem dX8_goesOn_92 : decode cX8_goesOn 92 = .ok (.iload 5, 2) := by decide +kernel
theorem dX8_goesOn_94 : decode cX8_goesOn 94 = .ok (.iaload, 1) := by decide +kernel
theorem dX8_goesOn_95 : decode cX8_goesOn 95 = .ok (.iadd, 1) := by decide +kernel
theorem dX8_goesOn_96 : decode cX8_goesOn 96 = .ok (.baload, 1) := by decide +kernel
theorem dX8_goesOn_97 : decode cX8_goesOn 97 = .ok (.ifCond .ne 7, 3) := by decide +kernel
theorem dX8_goesOn_100 : decode cX8_goesOn 100 = .ok (.iconst 1, 1) := by decide +kernel
theorem dX8_goesOn_101 : decode cX8_goesOn 101 = .ok (.goto 4, 3) := by decide +kernel
theorem dX8_goesOn_104 : decode cX8_goesOn 104 = .ok (.iconst 0, 1) := by decide +kernel
theorem dX8_goesOn_105 : decode cX8_goesOn 105 = .ok (.istore 8, 2) := by decide +kernel
theorem dX8_goesOn_107 : decode cX8_goesOn 107 = .ok (.iload 8, 2) := by decide +kernel
theorem dX8_goesOn_109 : decode cX8_goesOn 109 = .ok (.ifCond .eq 29, 3) := by decide +kernel
theorem dX8_goesOn_112 : decode cX8_goesOn 112 = .ok (.aload_n 0, 1) := by decide +kernel
theorem dX8_goesOn_113 : decode cX8_goesOn 113 = .ok (.getfield 106, 3) := by decide +kernel
theorem dX8_goesOn_116 : decode cX8_goesOn 116 = .ok (.sipush 288, 3) := by decide +kernel
theorem dX8_goesOn_119 : decode cX8_goesOn 119 = .ok (.iload 4, 2) := by decide +kernel
theorem dX8_goesOn_121 : decode cX8_goesOn 121 = .ok (.imul, 1) := by decide +kernel
theorem dX8_goesOn_122 : decode cX8_goesOn 122 = .ok (.bipush 32, 2) := by decide +kernel
theorem dX8_goesOn_124 : decode cX8_goesOn 124 = .ok (.iload 7, 2) := by decide +kernel
theorem dX8_goesOn_126 : decode cX8_goesOn 126 = .ok (.imul, 1) := by decide +kernel
theorem dX8_goesOn_127 : decode cX8_goesOn 127 = .ok (.iadd, 1) := by decide +kernel
theorem dX8_goesOn_128 : decode cX8_goesOn 128 = .ok (.aload_n 0, 1) := by decide +kernel
theorem dX8_goesOn_129 : decode cX8_goesOn 129 = .ok (.getfield 34, 3) := by decide +kernel
theorem dX8_goesOn_132 : decode cX8_goesOn 132 = .ok (.iload 5, 2) := by decide +kernel
theorem dX8_goesOn_134 : decode cX8_goesOn 134 = .ok (.iaload, 1) := by decide +kernel
theorem dX8_goesOn_135 : decode cX8_goesOn 135 = .ok (.iadd, 1) := by decide +kernel
theorem dX8_goesOn_136 : decode cX8_goesOn 136 = .ok (.iconst 1, 1) := by decide +kernel
theorem dX8_goesOn_137 : decode cX8_goesOn 137 = .ok (.bastore, 1) := by decide +kernel
theorem dX8_goesOn_138 : decode cX8_goesOn 138 = .ok (.iload 8, 2) := by decide +kernel
theorem dX8_goesOn_140 : decode cX8_goesOn 140 = .ok (.ireturn, 1) := by decide +kernel
theorem dX8_empties_0 : decode cX8_empties 0 = .ok (.iconst 0, 1) := by decide +kernel
theorem dX8_empties_1 : decode cX8_empties 1 = .ok (.istore_n 2, 1) := by decide +kernel
theorem dX8_empties_2 : decode cX8_empties 2 = .ok (.iload_n 2, 1) := by decide +kernel
theorem dX8_empties_3 : decode cX8_empties 3 = .ok (.sipush 288, 3) := by decide +kernel
theorem dX8_empties_6 : decode cX8_empties 6 = .ok (.if_icmp .ge 22, 3) := by decide +kernel
theorem dX8_empties_9 : decode cX8_empties 9 = .ok (.aload_n 0, 1) := by decide +kernel
theorem dX8_empties_10 : decode cX8_empties 10 = .ok (.getfield 106, 3) := by decide +kernel
theorem dX8_empties_13 : decode cX8_empties 13 = .ok (.sipush 288, 3) := by decide +kernel
theorem dX8_empties_16 : decode cX8_empties 16 = .ok (.iload_n 1, 1) := by decide +kernel
theorem dX8_empties_17 : decode cX8_empties 17 = .ok (.imul, 1) := by decide +kernel
theorem dX8_empties_18 : decode cX8_empties 18 = .ok (.iload_n 2, 1) := by decide +kernel
theorem dX8_empties_19 : decode cX8_empties 19 = .ok (.iadd, 1) := by decide +kernel
theorem dX8_empties_20 : decode cX8_empties 20 = .ok (.iconst 0, 1) := by decide +kernel
theorem dX8_empties_21 : decode cX8_empties 21 = .ok (.bastore, 1) := by decide +kernel
theorem dX8_empties_22 : decode cX8_empties 22 = .ok (.iinc 2 1, 3) := by decide +kernel
theorem dX8_empties_25 : decode cX8_empties 25 = .ok (.goto (-23), 3) := by decide +kernel
theorem dX8_empties_28 : decode cX8_empties 28 = .ok (.return_, 1) := by decide +kernel
set_option maxRecDepth 20000 in
theorem ggX8_goesBy_X8_empties : GoodIn wsX8_goesBy wsX8_empties := goodIn_r _ [7, 8, 36, 37, 38, 39, 40, 41, 42, 43, 44, 45, 46, 47, 48, 49, 50, 51, 52, 53, 54, 55, 56, 57, 58, 59, 60, 61, 62, 63, 64, 65, 66, 67, 68, 69, 70, 71, 72, 73, 74, 75, 76, 77, 78, 79, 80, 81, 82] rfl (by decide +kernel)
set_option maxRecDepth 20000 in
theorem gX8_goesBy_X8_empties : GoodIn wsX8_goesBy (wsV RX8 296 RX8 yX8_empties wsX8_empties) := goodIn_app (goodIn_of _ (by decide +kernel)) ggX8_goesBy_X8_empties
set_option maxRecDepth 20000 in
theorem ggX8_goesBy_X8_outOf : GoodIn wsX8_goesBy wsX8_outOf := goodIn_r _ [12, 13, 14, 36, 37, 38, 39, 40, 41, 42, 43, 44, 45, 46, 47, 48, 49, 50, 51, 52, 53, 54, 55, 56, 57, 58, 59, 60, 61, 62, 63, 64, 65, 66, 67, 68, 69, 70, 71, 72, 73, 74, 75, 76, 77, 78, 79, 80, 81, 82] rfl (by decide +kernel)
set_option maxRecDepth 20000 in
theorem gX8_goesBy_X8_outOf : GoodIn wsX8_goesBy (wsV RX8 289 RX8 yX8_outOf wsX8_outOf) := goodIn_app (goodIn_of _ (by decide +kernel)) ggX8_goesBy_X8_outOf
set_option maxRecDepth 20000 in
theorem ggX8_goesBy_X8_goesOn : GoodIn wsX8_goesBy wsX8_goesOn := goodIn_r _ [18, 8, 19, 20, 21, 22, 23, 24, 25, 6, 26, 2, 27, 28, 29, 30, 31, 14, 13, 36, 37, 38, 39, 40, 41, 42, 43, 44, 45, 46, 47, 48, 49, 50, 51, 52, 53, 54, 55, 56, 57, 58, 59, 60, 61, 62, 63, 64, 65, 66, 67, 68, 69, 70, 71, 72, 73, 74, 75, 76, 77, 78, 79, 80, 81, 82] rfl (by decide +kernel)
set_option maxRecDepth 20000 in
theorem gX8_goesBy_X8_goesOn : GoodIn wsX8_goesBy (wsV RX8 292 RX8 yX8_goesOn wsX8_goesOn) := goodIn_app (goodIn_of _ (by decide +kernel)) ggX8_goesBy_X8_goesOn
set_option maxRecDepth 20000 in
theorem ggX8_goesBy_X8_closes : GoodIn wsX8_goesBy wsX8_closes := goodIn_r _ [35, 1, 2, 9, 10, 11, 6, 12, 13, 14, 15, 16, 17, 18, 8, 19, 20, 21, 22, 23, 24, 25, 26, 27, 28, 29, 30, 31, 36, 37, 38, 39, 40, 41, 42, 43, 44, 45, 46, 47, 48, 49, 50, 51, 52, 53, 54, 55, 56, 57, 58, 59, 60, 61, 62, 63, 64, 65, 66, 67, 68, 69, 70, 71, 72, 73, 74, 75, 76, 77, 78, 79, 80, 81, 82] rfl (by decide +kernel)
set_option maxRecDepth 20000 in
theorem gX8_goesBy_X8_closes : GoodIn wsX8_goesBy (wsV RX8 299 RX8 yX8_closes wsX8_closes) := goodIn_app (goodIn_of _ (by decide +kernel)) ggX8_goesBy_X8_closes
theorem dX8_goesBy_0 : decode cX8_goesBy 0 = .ok (.aload_n 0, 1) := by decide +kernel
theorem dX8_goesBy_1 : decode cX8_goesBy 1 = .ok (.iload_n 3, 1) := by decide +kernel
theorem dX8_goesBy_2 : decode cX8_goesBy 2 = .ok (.iconst 1, 1) := by decide +kernel
theorem dX8_goesBy_3 : decode cX8_goesBy 3 = .ok (.iadd, 1) := by decide +kernel
theorem dX8_goesBy_4 : decode cX8_goesBy 4 = .ok (.invokevirtual 296, 3) := by decide +kernel
theorem dX8_goesBy_7 : decode cX8_goesBy 7 = .ok (.iconst 0, 1) := by decide +kernel
theorem dX8_goesBy_8 : decode cX8_goesBy 8 = .ok (.istore 5, 2) := by decide +kernel
theorem dX8_goesBy_10 : decode cX8_goesBy 10 = .ok (.sipush 160, 3) := by decide +kernel
theorem dX8_goesBy_13 : decode cX8_goesBy 13 = .ok (.iload_n 1, 1) := by decide +kernel
theorem dX8_goesBy_14 : decode cX8_goesBy 14 = .ok (.imul, 1) := by decide +kernel
theorem dX8_goesBy_15 : decode cX8_goesBy 15 = .ok (.istore 6, 2) := by decide +kernel
theorem dX8_goesBy_17 : decode cX8_goesBy 17 = .ok (.iload 6, 2) := by decide +kernel
theorem dX8_goesBy_19 : decode cX8_goesBy 19 = .ok (.sipush 160, 3) := by decide +kernel
theorem dX8_goesBy_22 : decode cX8_goesBy 22 = .ok (.iload_n 1, 1) := by decide +kernel
theorem dX8_goesBy_23 : decode cX8_goesBy 23 = .ok (.imul, 1) := by decide +kernel
theorem dX8_goesBy_24 : decode cX8_goesBy 24 = .ok (.aload_n 0, 1) := by decide +kernel
theorem dX8_goesBy_25 : decode cX8_goesBy 25 = .ok (.getfield 19, 3) := by decide +kernel
theorem dX8_goesBy_28 : decode cX8_goesBy 28 = .ok (.iload_n 1, 1) := by decide +kernel
theorem dX8_goesBy_29 : decode cX8_goesBy 29 = .ok (.iaload, 1) := by decide +kernel
theorem dX8_goesBy_30 : decode cX8_goesBy 30 = .ok (.iadd, 1) := by decide +kernel
theorem dX8_goesBy_31 : decode cX8_goesBy 31 = .ok (.if_icmp .ge 68, 3) := by decide +kernel
theorem dX8_goesBy_34 : decode cX8_goesBy 34 = .ok (.iconst 0, 1) := by decide +kernel
theorem dX8_goesBy_35 : decode cX8_goesBy 35 = .ok (.istore 7, 2) := by decide +kernel
theorem dX8_goesBy_37 : decode cX8_goesBy 37 = .ok (.iload 7, 2) := by decide +kernel
theorem dX8_goesBy_39 : decode cX8_goesBy 39 = .ok (.aload_n 0, 1) := by decide +kernel
theorem dX8_goesBy_40 : decode cX8_goesBy 40 = .ok (.getfield 135, 3) := by decide +kernel
theorem dX8_goesBy_43 : decode cX8_goesBy 43 = .ok (.if_icmp .gt 50, 3) := by decide +kernel
theorem dX8_goesBy_46 : decode cX8_goesBy 46 = .ok (.aload_n 0, 1) := by decide +kernel
theorem dX8_goesBy_47 : decode cX8_goesBy 47 = .ok (.iload 6, 2) := by decide +kernel
theorem dX8_goesBy_49 : decode cX8_goesBy 49 = .ok (.iload_n 2, 1) := by decide +kernel
theorem dX8_goesBy_50 : decode cX8_goesBy 50 = .ok (.invokevirtual 289, 3) := by decide +kernel
theorem dX8_goesBy_53 : decode cX8_goesBy 53 = .ok (.iload 4, 2) := by decide +kernel
theorem dX8_goesBy_55 : decode cX8_goesBy 55 = .ok (.if_icmp .ne 38, 3) := by decide +kernel
theorem dX8_goesBy_58 : decode cX8_goesBy 58 = .ok (.aload_n 0, 1) := by decide +kernel
theorem dX8_goesBy_59 : decode cX8_goesBy 59 = .ok (.iload_n 1, 1) := by decide +kernel
theorem dX8_goesBy_60 : decode cX8_goesBy 60 = .ok (.iload_n 2, 1) := by decide +kernel
theorem dX8_goesBy_61 : decode cX8_goesBy 61 = .ok (.iload_n 3, 1) := by decide +kernel
theorem dX8_goesBy_62 : decode cX8_goesBy 62 = .ok (.iload_n 3, 1) := by decide +kernel
theorem dX8_goesBy_63 : decode cX8_goesBy 63 = .ok (.iconst 1, 1) := by decide +kernel
theorem dX8_goesBy_64 : decode cX8_goesBy 64 = .ok (.iadd, 1) := by decide +kernel
theorem dX8_goesBy_65 : decode cX8_goesBy 65 = .ok (.iload 6, 2) := by decide +kernel
theorem dX8_goesBy_67 : decode cX8_goesBy 67 = .ok (.iload 7, 2) := by decide +kernel
theorem dX8_goesBy_69 : decode cX8_goesBy 69 = .ok (.invokevirtual 292, 3) := by decide +kernel
theorem dX8_goesBy_72 : decode cX8_goesBy 72 = .ok (.ifCond .ne 8, 3) := by decide +kernel
theorem dX8_goesBy_75 : decode cX8_goesBy 75 = .ok (.iload 5, 2) := by decide +kernel
theorem dX8_goesBy_77 : decode cX8_goesBy 77 = .ok (.ifCond .eq 7, 3) := by decide +kernel
theorem dX8_goesBy_80 : decode cX8_goesBy 80 = .ok (.iconst 1, 1) := by decide +kernel
theorem dX8_goesBy_81 : decode cX8_goesBy 81 = .ok (.goto 4, 3) := by decide +kernel
theorem dX8_goesBy_84 : decode cX8_goesBy 84 = .ok (.iconst 0, 1) := by decide +kernel
theorem dX8_goesBy_85 : decode cX8_goesBy 85 = .ok (.istore 5, 2) := by decide +kernel
theorem dX8_goesBy_87 : decode cX8_goesBy 87 = .ok (.iinc 7 1, 3) := by decide +kernel
theorem dX8_goesBy_90 : decode cX8_goesBy 90 = .ok (.goto (-53), 3) := by decide +kernel
theorem dX8_goesBy_93 : decode cX8_goesBy 93 = .ok (.iinc 6 1, 3) := by decide +kernel
theorem dX8_goesBy_96 : decode cX8_goesBy 96 = .ok (.goto (-79), 3) := by decide +kernel
theorem dX8_goesBy_99 : decode cX8_goesBy 99 = .ok (.iload 5, 2) := by decide +kernel
theorem dX8_goesBy_101 : decode cX8_goesBy 101 = .ok (.ifCond .eq 12, 3) := by decide +kernel
theorem dX8_goesBy_104 : decode cX8_goesBy 104 = .ok (.aload_n 0, 1) := by decide +kernel
theorem dX8_goesBy_105 : decode cX8_goesBy 105 = .ok (.iload_n 1, 1) := by decide +kernel
theorem dX8_goesBy_106 : decode cX8_goesBy 106 = .ok (.iload_n 2, 1) := by decide +kernel
theorem dX8_goesBy_107 : decode cX8_goesBy 107 = .ok (.iload_n 3, 1) := by decide +kernel
theorem dX8_goesBy_108 : decode cX8_goesBy 108 = .ok (.iconst 1, 1) := by decide +kernel
theorem dX8_goesBy_109 : decode cX8_goesBy 109 = .ok (.iadd, 1) := by decide +kernel
theorem dX8_goesBy_110 : decode cX8_goesBy 110 = .ok (.invokevirtual 299, 3) := by decide +kernel
theorem dX8_goesBy_113 : decode cX8_goesBy 113 = .ok (.iload 5, 2) := by decide +kernel
theorem dX8_goesBy_115 : decode cX8_goesBy 115 = .ok (.ireturn, 1) := by decide +kernel
set_option maxRecDepth 20000 in
theorem ggX8_isAnswer_X8_isEndOf : GoodIn wsX8_isAnswer wsX8_isEndOf := goodIn_r _ [8, 9, 10, 11, 12, 13, 14, 15, 16, 17, 18, 19, 20, 21, 22, 23, 24, 25, 26, 27, 28, 29, 30, 31, 32, 33, 34, 35, 36, 37, 38, 39, 40, 41, 42, 43, 44, 45, 46, 47, 48, 49, 50, 51, 52, 53, 54, 55, 56] rfl (by decide +kernel)
set_option maxRecDepth 20000 in
theorem gX8_isAnswer_X8_isEndOf : GoodIn wsX8_isAnswer (wsV RX8 201 RX8 yX8_isEndOf wsX8_isEndOf) := goodIn_app (goodIn_of _ (by decide +kernel)) ggX8_isAnswer_X8_isEndOf
theorem dX8_isAnswer_0 : decode cX8_isAnswer 0 = .ok (.iconst 0, 1) := by decide +kernel
theorem dX8_isAnswer_1 : decode cX8_isAnswer 1 = .ok (.istore_n 3, 1) := by decide +kernel
theorem dX8_isAnswer_2 : decode cX8_isAnswer 2 = .ok (.iconst 0, 1) := by decide +kernel
theorem dX8_isAnswer_3 : decode cX8_isAnswer 3 = .ok (.istore 4, 2) := by decide +kernel
theorem dX8_isAnswer_5 : decode cX8_isAnswer 5 = .ok (.iload 4, 2) := by decide +kernel
theorem dX8_isAnswer_7 : decode cX8_isAnswer 7 = .ok (.aload_n 0, 1) := by decide +kernel
theorem dX8_isAnswer_8 : decode cX8_isAnswer 8 = .ok (.getfield 13, 3) := by decide +kernel
theorem dX8_isAnswer_11 : decode cX8_isAnswer 11 = .ok (.iload_n 1, 1) := by decide +kernel
theorem dX8_isAnswer_12 : decode cX8_isAnswer 12 = .ok (.iaload, 1) := by decide +kernel
theorem dX8_isAnswer_13 : decode cX8_isAnswer 13 = .ok (.if_icmp .ge 53, 3) := by decide +kernel
theorem dX8_isAnswer_16 : decode cX8_isAnswer 16 = .ok (.iload_n 3, 1) := by decide +kernel
theorem dX8_isAnswer_17 : decode cX8_isAnswer 17 = .ok (.ifCond .ne 37, 3) := by decide +kernel
theorem dX8_isAnswer_20 : decode cX8_isAnswer 20 = .ok (.aload_n 0, 1) := by decide +kernel
theorem dX8_isAnswer_21 : decode cX8_isAnswer 21 = .ok (.getfield 106, 3) := by decide +kernel
theorem dX8_isAnswer_24 : decode cX8_isAnswer 24 = .ok (.sipush 288, 3) := by decide +kernel
theorem dX8_isAnswer_27 : decode cX8_isAnswer 27 = .ok (.iload_n 2, 1) := by decide +kernel
theorem dX8_isAnswer_28 : decode cX8_isAnswer 28 = .ok (.imul, 1) := by decide +kernel
theorem dX8_isAnswer_29 : decode cX8_isAnswer 29 = .ok (.bipush 32, 2) := by decide +kernel
theorem dX8_isAnswer_31 : decode cX8_isAnswer 31 = .ok (.aload_n 0, 1) := by decide +kernel
theorem dX8_isAnswer_32 : decode cX8_isAnswer 32 = .ok (.getfield 135, 3) := by decide +kernel
theorem dX8_isAnswer_35 : decode cX8_isAnswer 35 = .ok (.imul, 1) := by decide +kernel
theorem dX8_isAnswer_36 : decode cX8_isAnswer 36 = .ok (.iadd, 1) := by decide +kernel
theorem dX8_isAnswer_37 : decode cX8_isAnswer 37 = .ok (.iload 4, 2) := by decide +kernel
theorem dX8_isAnswer_39 : decode cX8_isAnswer 39 = .ok (.iadd, 1) := by decide +kernel
theorem dX8_isAnswer_40 : decode cX8_isAnswer 40 = .ok (.baload, 1) := by decide +kernel
theorem dX8_isAnswer_41 : decode cX8_isAnswer 41 = .ok (.ifCond .eq 17, 3) := by decide +kernel
theorem dX8_isAnswer_44 : decode cX8_isAnswer 44 = .ok (.aload_n 0, 1) := by decide +kernel
theorem dX8_isAnswer_45 : decode cX8_isAnswer 45 = .ok (.iload_n 1, 1) := by decide +kernel
theorem dX8_isAnswer_46 : decode cX8_isAnswer 46 = .ok (.iload 4, 2) := by decide +kernel
theorem dX8_isAnswer_48 : decode cX8_isAnswer 48 = .ok (.invokevirtual 201, 3) := by decide +kernel
theorem dX8_isAnswer_51 : decode cX8_isAnswer 51 = .ok (.ifCond .eq 7, 3) := by decide +kernel
theorem dX8_isAnswer_54 : decode cX8_isAnswer 54 = .ok (.iconst 1, 1) := by decide +kernel
theorem dX8_isAnswer_55 : decode cX8_isAnswer 55 = .ok (.goto 4, 3) := by decide +kernel
theorem dX8_isAnswer_58 : decode cX8_isAnswer 58 = .ok (.iconst 0, 1) := by decide +kernel
theorem dX8_isAnswer_59 : decode cX8_isAnswer 59 = .ok (.istore_n 3, 1) := by decide +kernel
theorem dX8_isAnswer_60 : decode cX8_isAnswer 60 = .ok (.iinc 4 1, 3) := by decide +kernel
theorem dX8_isAnswer_63 : decode cX8_isAnswer 63 = .ok (.goto (-58), 3) := by decide +kernel
theorem dX8_isAnswer_66 : decode cX8_isAnswer 66 = .ok (.iload_n 3, 1) := by decide +kernel
theorem dX8_isAnswer_67 : decode cX8_isAnswer 67 = .ok (.ireturn, 1) := by decide +kernel
set_option maxRecDepth 20000 in
theorem ggX8_answersTo_X8_rests : GoodIn wsX8_answersTo wsX8_rests := goodIn_r _ [11, 1, 12, 2, 13, 14, 15, 16, 17, 18, 19, 10, 20, 21, 22, 23, 24, 25, 26, 27, 28, 29, 30, 31, 32, 58, 59, 60, 61, 62, 63, 64, 65, 66, 67, 68, 69, 70, 71, 72, 73, 74, 75, 76, 77, 78, 79, 80, 81, 82, 83, 84, 85, 86, 87, 88, 89, 90, 91, 92, 93, 94, 95, 96, 97, 98, 99, 100, 101, 102, 103, 104] rfl (by decide +kernel)
set_option maxRecDepth 20000 in
theorem gX8_answersTo_X8_rests : GoodIn wsX8_answersTo (wsV RX8 303 RX8 yX8_rests wsX8_rests) := goodIn_app (goodIn_of _ (by decide +kernel)) ggX8_answersTo_X8_rests
set_option maxRecDepth 20000 in
theorem ggX8_answersTo_X8_empties : GoodIn wsX8_answersTo wsX8_empties := goodIn_r _ [36, 3, 58, 59, 60, 61, 62, 63, 64, 65, 66, 67, 68, 69, 70, 71, 72, 73, 74, 75, 76, 77, 78, 79, 80, 81, 82, 83, 84, 85, 86, 87, 88, 89, 90, 91, 92, 93, 94, 95, 96, 97, 98, 99, 100, 101, 102, 103, 104] rfl (by decide +kernel)
set_option maxRecDepth 20000 in
theorem gX8_answersTo_X8_empties : GoodIn wsX8_answersTo (wsV RX8 296 RX8 yX8_empties wsX8_empties) := goodIn_app (goodIn_of _ (by decide +kernel)) ggX8_answersTo_X8_empties
set_option maxRecDepth 20000 in
theorem ggX8_answersTo_X8_closes : GoodIn wsX8_answersTo wsX8_closes := goodIn_r _ [40, 13, 12, 41, 42, 43, 10, 44, 32, 31, 45, 46, 47, 48, 3, 16, 1, 14, 2, 22, 23, 24, 25, 26, 27, 28, 29, 30, 58, 59, 60, 61, 62, 63, 64, 65, 66, 67, 68, 69, 70, 71, 72, 73, 74, 75, 76, 77, 78, 79, 80, 81, 82, 83, 84, 85, 86, 87, 88, 89, 90, 91, 92, 93, 94, 95, 96, 97, 98, 99, 100, 101, 102, 103, 104] rfl (by decide +kernel)
set_option maxRecDepth 20000 in
theorem gX8_answersTo_X8_closes : GoodIn wsX8_answersTo (wsV RX8 299 RX8 yX8_closes wsX8_closes) := goodIn_app (goodIn_of _ (by decide +kernel)) ggX8_answersTo_X8_closes
set_option maxRecDepth 20000 in
theorem ggX8_answersTo_X8_isAnswer : GoodIn wsX8_answersTo wsX8_isAnswer := goodIn_r _ [52, 53, 3, 12, 17, 18, 19, 10, 20, 21, 58, 59, 60, 61, 62, 63, 64, 65, 66, 67, 68, 69, 70, 71, 72, 73, 74, 75, 76, 77, 78, 79, 80, 81, 82, 83, 84, 85, 86, 87, 88, 89, 90, 91, 92, 93, 94, 95, 96, 97, 98, 99, 100, 101, 102, 103, 104] rfl (by decide +kernel)
set_option maxRecDepth 20000 in
theorem gX8_answersTo_X8_isAnswer : GoodIn wsX8_answersTo (wsV RX8 307 RX8 yX8_isAnswer wsX8_isAnswer) := goodIn_app (goodIn_of _ (by decide +kernel)) ggX8_answersTo_X8_isAnswer
set_option maxRecDepth 20000 in
theorem ggX8_answersTo_X8_goesBy : GoodIn wsX8_answersTo wsX8_goesBy := goodIn_r _ [57, 13, 12, 33, 34, 35, 10, 36, 3, 41, 42, 43, 44, 32, 31, 45, 46, 47, 48, 16, 1, 14, 2, 22, 23, 24, 25, 26, 27, 28, 29, 30, 37, 38, 39, 40, 58, 59, 60, 61, 62, 63, 64, 65, 66, 67, 68, 69, 70, 71, 72, 73, 74, 75, 76, 77, 78, 79, 80, 81, 82, 83, 84, 85, 86, 87, 88, 89, 90, 91, 92, 93, 94, 95, 96, 97, 98, 99, 100, 101, 102, 103, 104] rfl (by decide +kernel)
set_option maxRecDepth 20000 in
theorem gX8_answersTo_X8_goesBy : GoodIn wsX8_answersTo (wsV RX8 310 RX8 yX8_goesBy wsX8_goesBy) := goodIn_app (goodIn_of _ (by decide +kernel)) ggX8_answersTo_X8_goesBy
theorem dX8_answersTo_0 : decode cX8_answersTo 0 = .ok (.aload_n 0, 1) := by decide +kernel
theorem dX8_answersTo_1 : decode cX8_answersTo 1 = .ok (.iload_n 1, 1) := by decide +kernel
theorem dX8_answersTo_2 : decode cX8_answersTo 2 = .ok (.iload_n 2, 1) := by decide +kernel
theorem dX8_answersTo_3 : decode cX8_answersTo 3 = .ok (.invokevirtual 303, 3) := by decide +kernel
theorem dX8_answersTo_6 : decode cX8_answersTo 6 = .ok (.aload_n 0, 1) := by decide +kernel
theorem dX8_answersTo_7 : decode cX8_answersTo 7 = .ok (.getfield 96, 3) := by decide +kernel
theorem dX8_answersTo_10 : decode cX8_answersTo 10 = .ok (.iconst 0, 1) := by decide +kernel
theorem dX8_answersTo_11 : decode cX8_answersTo 11 = .ok (.iaload, 1) := by decide +kernel
theorem dX8_answersTo_12 : decode cX8_answersTo 12 = .ok (.ldc_w 284, 3) := by decide +kernel
theorem dX8_answersTo_15 : decode cX8_answersTo 15 = .ok (.if_icmp .ne 5, 3) := by decide +kernel
theorem dX8_answersTo_18 : decode cX8_answersTo 18 = .ok (.iconst 0, 1) := by decide +kernel
theorem dX8_answersTo_19 : decode cX8_answersTo 19 = .ok (.ireturn, 1) := by decide +kernel
theorem dX8_answersTo_20 : decode cX8_answersTo 20 = .ok (.aload_n 0, 1) := by decide +kernel
theorem dX8_answersTo_21 : decode cX8_answersTo 21 = .ok (.iconst 0, 1) := by decide +kernel
theorem dX8_answersTo_22 : decode cX8_answersTo 22 = .ok (.invokevirtual 296, 3) := by decide +kernel
theorem dX8_answersTo_25 : decode cX8_answersTo 25 = .ok (.aload_n 0, 1) := by decide +kernel
theorem dX8_answersTo_26 : decode cX8_answersTo 26 = .ok (.getfield 106, 3) := by decide +kernel
theorem dX8_answersTo_29 : decode cX8_answersTo 29 = .ok (.iconst 0, 1) := by decide +kernel
theorem dX8_answersTo_30 : decode cX8_answersTo 30 = .ok (.iconst 1, 1) := by decide +kernel
theorem dX8_answersTo_31 : decode cX8_answersTo 31 = .ok (.bastore, 1) := by decide +kernel
theorem dX8_answersTo_32 : decode cX8_answersTo 32 = .ok (.aload_n 0, 1) := by decide +kernel
theorem dX8_answersTo_33 : decode cX8_answersTo 33 = .ok (.iload_n 1, 1) := by decide +kernel
theorem dX8_answersTo_34 : decode cX8_answersTo 34 = .ok (.iload_n 2, 1) := by decide +kernel
theorem dX8_answersTo_35 : decode cX8_answersTo 35 = .ok (.iconst 0, 1) := by decide +kernel
theorem dX8_answersTo_36 : decode cX8_answersTo 36 = .ok (.invokevirtual 299, 3) := by decide +kernel
theorem dX8_answersTo_39 : decode cX8_answersTo 39 = .ok (.iconst 0, 1) := by decide +kernel
theorem dX8_answersTo_40 : decode cX8_answersTo 40 = .ok (.istore 4, 2) := by decide +kernel
theorem dX8_answersTo_42 : decode cX8_answersTo 42 = .ok (.aload_n 0, 1) := by decide +kernel
theorem dX8_answersTo_43 : decode cX8_answersTo 43 = .ok (.getfield 109, 3) := by decide +kernel
theorem dX8_answersTo_46 : decode cX8_answersTo 46 = .ok (.iconst 0, 1) := by decide +kernel
theorem dX8_answersTo_47 : decode cX8_answersTo 47 = .ok (.iconst (-1), 1) := by decide +kernel
theorem dX8_answersTo_48 : decode cX8_answersTo 48 = .ok (.iastore, 1) := by decide +kernel
theorem dX8_answersTo_49 : decode cX8_answersTo 49 = .ok (.aload_n 0, 1) := by decide +kernel
theorem dX8_answersTo_50 : decode cX8_answersTo 50 = .ok (.iload_n 1, 1) := by decide +kernel
theorem dX8_answersTo_51 : decode cX8_answersTo 51 = .ok (.iconst 0, 1) := by decide +kernel
theorem dX8_answersTo_52 : decode cX8_answersTo 52 = .ok (.invokevirtual 307, 3) := by decide +kernel
theorem dX8_answersTo_55 : decode cX8_answersTo 55 = .ok (.ifCond .eq 7, 3) := by decide +kernel
theorem dX8_answersTo_58 : decode cX8_answersTo 58 = .ok (.iconst 1, 1) := by decide +kernel
theorem dX8_answersTo_59 : decode cX8_answersTo 59 = .ok (.goto 4, 3) := by decide +kernel
theorem dX8_answersTo_62 : decode cX8_answersTo 62 = .ok (.iconst 0, 1) := by decide +kernel
theorem dX8_answersTo_63 : decode cX8_answersTo 63 = .ok (.istore 5, 2) := by decide +kernel
theorem dX8_answersTo_65 : decode cX8_answersTo 65 = .ok (.iload 5, 2) := by decide +kernel
theorem dX8_answersTo_67 : decode cX8_answersTo 67 = .ok (.iload_n 3, 1) := by decide +kernel
theorem dX8_answersTo_68 : decode cX8_answersTo 68 = .ok (.if_icmp .gt 103, 3) := by decide +kernel
theorem dX8_answersTo_71 : decode cX8_answersTo 71 = .ok (.iload 4, 2) := by decide +kernel
theorem dX8_answersTo_73 : decode cX8_answersTo 73 = .ok (.ifCond .lt 98, 3) := by decide +kernel
theorem dX8_answersTo_76 : decode cX8_answersTo 76 = .ok (.aload_n 0, 1) := by decide +kernel
theorem dX8_answersTo_77 : decode cX8_answersTo 77 = .ok (.getfield 109, 3) := by decide +kernel
theorem dX8_answersTo_80 : decode cX8_answersTo 80 = .ok (.iload 4, 2) := by decide +kernel
theorem dX8_answersTo_82 : decode cX8_answersTo 82 = .ok (.dup2, 1) := by decide +kernel
theorem dX8_answersTo_83 : decode cX8_answersTo 83 = .ok (.iaload, 1) := by decide +kernel
theorem dX8_answersTo_84 : decode cX8_answersTo 84 = .ok (.iconst 1, 1) := by decide +kernel
theorem dX8_answersTo_85 : decode cX8_answersTo 85 = .ok (.iadd, 1) := by decide +kernel
theorem dX8_answersTo_86 : decode cX8_answersTo 86 = .ok (.iastore, 1) := by decide +kernel
theorem dX8_answersTo_87 : decode cX8_answersTo 87 = .ok (.aload_n 0, 1) := by decide +kernel
theorem dX8_answersTo_88 : decode cX8_answersTo 88 = .ok (.getfield 109, 3) := by decide +kernel
theorem dX8_answersTo_91 : decode cX8_answersTo 91 = .ok (.iload 4, 2) := by decide +kernel
theorem dX8_answersTo_93 : decode cX8_answersTo 93 = .ok (.iaload, 1) := by decide +kernel
theorem dX8_answersTo_94 : decode cX8_answersTo 94 = .ok (.bipush 8, 2) := by decide +kernel
theorem dX8_answersTo_96 : decode cX8_answersTo 96 = .ok (.if_icmp .ne 9, 3) := by decide +kernel
theorem dX8_answersTo_99 : decode cX8_answersTo 99 = .ok (.iinc 4 (-1), 3) := by decide +kernel
theorem dX8_answersTo_102 : decode cX8_answersTo 102 = .ok (.goto (-37), 3) := by decide +kernel
theorem dX8_answersTo_105 : decode cX8_answersTo 105 = .ok (.aload_n 0, 1) := by decide +kernel
theorem dX8_answersTo_106 : decode cX8_answersTo 106 = .ok (.iload_n 1, 1) := by decide +kernel
theorem dX8_answersTo_107 : decode cX8_answersTo 107 = .ok (.iload_n 2, 1) := by decide +kernel
theorem dX8_answersTo_108 : decode cX8_answersTo 108 = .ok (.iload 4, 2) := by decide +kernel
theorem dX8_answersTo_110 : decode cX8_answersTo 110 = .ok (.aload_n 0, 1) := by decide +kernel
theorem dX8_answersTo_111 : decode cX8_answersTo 111 = .ok (.getfield 109, 3) := by decide +kernel
theorem dX8_answersTo_114 : decode cX8_answersTo 114 = .ok (.iload 4, 2) := by decide +kernel
theorem dX8_answersTo_116 : decode cX8_answersTo 116 = .ok (.iaload, 1) := by decide +kernel
theorem dX8_answersTo_117 : decode cX8_answersTo 117 = .ok (.invokevirtual 310, 3) := by decide +kernel
theorem dX8_answersTo_120 : decode cX8_answersTo 120 = .ok (.ifCond .eq (-55), 3) := by decide +kernel
theorem dX8_answersTo_123 : decode cX8_answersTo 123 = .ok (.aload_n 0, 1) := by decide +kernel
theorem dX8_answersTo_124 : decode cX8_answersTo 124 = .ok (.getfield 112, 3) := by decide +kernel
theorem dX8_answersTo_127 : decode cX8_answersTo 127 = .ok (.iload 4, 2) := by decide +kernel
theorem dX8_answersTo_129 : decode cX8_answersTo 129 = .ok (.aload_n 0, 1) := by decide +kernel
theorem dX8_answersTo_130 : decode cX8_answersTo 130 = .ok (.getfield 109, 3) := by decide +kernel
theorem dX8_answersTo_133 : decode cX8_answersTo 133 = .ok (.iload 4, 2) := by decide +kernel
theorem dX8_answersTo_135 : decode cX8_answersTo 135 = .ok (.iaload, 1) := by decide +kernel
theorem dX8_answersTo_136 : decode cX8_answersTo 136 = .ok (.iastore, 1) := by decide +kernel
theorem dX8_answersTo_137 : decode cX8_answersTo 137 = .ok (.iinc 4 1, 3) := by decide +kernel
theorem dX8_answersTo_140 : decode cX8_answersTo 140 = .ok (.aload_n 0, 1) := by decide +kernel
theorem dX8_answersTo_141 : decode cX8_answersTo 141 = .ok (.getfield 109, 3) := by decide +kernel
theorem dX8_answersTo_144 : decode cX8_answersTo 144 = .ok (.iload 4, 2) := by decide +kernel
theorem dX8_answersTo_146 : decode cX8_answersTo 146 = .ok (.iconst (-1), 1) := by decide +kernel
theorem dX8_answersTo_147 : decode cX8_answersTo 147 = .ok (.iastore, 1) := by decide +kernel
theorem dX8_answersTo_148 : decode cX8_answersTo 148 = .ok (.iload 5, 2) := by decide +kernel
theorem dX8_answersTo_150 : decode cX8_answersTo 150 = .ok (.aload_n 0, 1) := by decide +kernel
theorem dX8_answersTo_151 : decode cX8_answersTo 151 = .ok (.iload_n 1, 1) := by decide +kernel
theorem dX8_answersTo_152 : decode cX8_answersTo 152 = .ok (.iload 4, 2) := by decide +kernel
theorem dX8_answersTo_154 : decode cX8_answersTo 154 = .ok (.invokevirtual 307, 3) := by decide +kernel
theorem dX8_answersTo_157 : decode cX8_answersTo 157 = .ok (.ifCond .eq 7, 3) := by decide +kernel
theorem dX8_answersTo_160 : decode cX8_answersTo 160 = .ok (.iconst 1, 1) := by decide +kernel
theorem dX8_answersTo_161 : decode cX8_answersTo 161 = .ok (.goto 4, 3) := by decide +kernel
theorem dX8_answersTo_164 : decode cX8_answersTo 164 = .ok (.iconst 0, 1) := by decide +kernel
theorem dX8_answersTo_165 : decode cX8_answersTo 165 = .ok (.iadd, 1) := by decide +kernel
theorem dX8_answersTo_166 : decode cX8_answersTo 166 = .ok (.istore 5, 2) := by decide +kernel
theorem dX8_answersTo_168 : decode cX8_answersTo 168 = .ok (.goto (-103), 3) := by decide +kernel
theorem dX8_answersTo_171 : decode cX8_answersTo 171 = .ok (.aload_n 0, 1) := by decide +kernel
theorem dX8_answersTo_172 : decode cX8_answersTo 172 = .ok (.iload 4, 2) := by decide +kernel
theorem dX8_answersTo_174 : decode cX8_answersTo 174 = .ok (.putfield 314, 3) := by decide +kernel
theorem dX8_answersTo_177 : decode cX8_answersTo 177 = .ok (.iload 5, 2) := by decide +kernel
theorem dX8_answersTo_179 : decode cX8_answersTo 179 = .ok (.ireturn, 1) := by decide +kernel
theorem dX8_letterAt_0 : decode cX8_letterAt 0 = .ok (.iload_n 1, 1) := by decide +kernel
theorem dX8_letterAt_1 : decode cX8_letterAt 1 = .ok (.aload_n 0, 1) := by decide +kernel
theorem dX8_letterAt_2 : decode cX8_letterAt 2 = .ok (.getfield 314, 3) := by decide +kernel
theorem dX8_letterAt_5 : decode cX8_letterAt 5 = .ok (.if_icmp .ge 12, 3) := by decide +kernel
theorem dX8_letterAt_8 : decode cX8_letterAt 8 = .ok (.aload_n 0, 1) := by decide +kernel
theorem dX8_letterAt_9 : decode cX8_letterAt 9 = .ok (.getfield 112, 3) := by decide +kernel
theorem dX8_letterAt_12 : decode cX8_letterAt 12 = .ok (.iload_n 1, 1) := by decide +kernel
theorem dX8_letterAt_13 : decode cX8_letterAt 13 = .ok (.iaload, 1) := by decide +kernel
theorem dX8_letterAt_14 : decode cX8_letterAt 14 = .ok (.goto 5, 3) := by decide +kernel
theorem dX8_letterAt_17 : decode cX8_letterAt 17 = .ok (.bipush 8, 2) := by decide +kernel
theorem dX8_letterAt_19 : decode cX8_letterAt 19 = .ok (.ireturn, 1) := by decide +kernel
set_option maxRecDepth 20000 in
theorem ggX8_answer_X8_isMachine : GoodIn wsX8_answer wsX8_isMachine := goodIn_r _ [5, 6, 7, 8, 4, 9, 79, 80, 81, 82, 83, 84, 85, 86, 87, 88, 89, 90, 91, 92, 93, 94, 95, 96, 97, 98, 99, 100, 101, 102, 103, 104, 105, 106, 107, 108, 109, 110, 111, 112, 113, 114, 115, 116, 117, 118, 119, 120, 121, 122, 123, 124, 125] rfl (by decide +kernel)
set_option maxRecDepth 20000 in
theorem gX8_answer_X8_isMachine : GoodIn wsX8_answer (wsV RX8 204 RX8 yX8_isMachine wsX8_isMachine) := goodIn_app (goodIn_of _ (by decide +kernel)) ggX8_answer_X8_isMachine
set_option maxRecDepth 20000 in
theorem ggX8_answer_X8_isIn : GoodIn wsX8_answer wsX8_isIn := goodIn_r _ [9] rfl (by decide +kernel)
set_option maxRecDepth 20000 in
theorem gX8_answer_X8_isIn : GoodIn wsX8_answer (va_wsS RX8 131 yX8_isIn wsX8_isIn) := goodIn_app (goodIn_of _ (by decide +kernel)) ggX8_answer_X8_isIn
set_option maxRecDepth 20000 in
theorem ggX8_answer_X8_isFine : GoodIn wsX8_answer wsX8_isFine := goodIn_r _ [13, 14, 79, 80, 81, 82, 83, 84, 85, 86, 87, 88, 89, 90, 91, 92, 93, 94, 95, 96, 97, 98, 99, 100, 101, 102, 103, 104, 105, 106, 107, 108, 109, 110, 111, 112, 113, 114, 115, 116, 117, 118, 119, 120, 121, 122, 123, 124, 125] rfl (by decide +kernel)
set_option maxRecDepth 20000 in
theorem gX8_answer_X8_isFine : GoodIn wsX8_answer (wsV RX8 138 RX8 yX8_isFine wsX8_isFine) := goodIn_app (goodIn_of _ (by decide +kernel)) ggX8_answer_X8_isFine
set_option maxRecDepth 20000 in
theorem ggX8_answer_X8_answersTo : GoodIn wsX8_answer wsX8_answersTo := goodIn_r _ [18, 19, 20, 21, 22, 23, 24, 25, 26, 27, 4, 28, 29, 30, 31, 32, 33, 34, 35, 36, 37, 38, 39, 40, 41, 42, 43, 44, 45, 46, 47, 48, 49, 50, 51, 52, 53, 54, 55, 56, 57, 58, 59, 60, 61, 62, 63, 64, 65, 66, 67, 68, 69, 70, 71, 72, 73, 74, 79, 80, 81, 82, 83, 84, 85, 86, 87, 88, 89, 90, 91, 92, 93, 94, 95, 96, 97, 98, 99, 100, 101, 102, 103, 104, 105, 106, 107, 108, 109, 110, 111, 112, 113, 114, 115, 116, 117, 118, 119, 120, 121, 122, 123, 124, 125] rfl (by decide +kernel)
set_option maxRecDepth 20000 in
theorem gX8_answer_X8_answersTo : GoodIn wsX8_answer (wsV RX8 317 RX8 yX8_answersTo wsX8_answersTo) := goodIn_app (goodIn_of _ (by decide +kernel)) ggX8_answer_X8_answersTo
set_option maxRecDepth 20000 in
theorem ggX8_answer_X8_letterAt : GoodIn wsX8_answer wsX8_letterAt := goodIn_r _ [78, 24, 23, 79, 80, 81, 82, 83, 84, 85, 86, 87, 88, 89, 90, 91, 92, 93, 94, 95, 96, 97, 98, 99, 100, 101, 102, 103, 104, 105, 106, 107, 108, 109, 110, 111, 112, 113, 114, 115, 116, 117, 118, 119, 120, 121, 122, 123, 124, 125] rfl (by decide +kernel)
set_option maxRecDepth 20000 in
theorem gX8_answer_X8_letterAt : GoodIn wsX8_answer (wsV RX8 321 RX8 yX8_letterAt wsX8_letterAt) := goodIn_app (goodIn_of _ (by decide +kernel)) ggX8_answer_X8_letterAt
theorem dX8_answer_0 : decode cX8_answer 0 = .ok (.aload_n 0, 1) := by decide +kernel
theorem dX8_answer_1 : decode cX8_answer 1 = .ok (.iload_n 1, 1) := by decide +kernel
theorem dX8_answer_2 : decode cX8_answer 2 = .ok (.invokevirtual 204, 3) := by decide +kernel
theorem dX8_answer_5 : decode cX8_answer 5 = .ok (.ifCond .eq 12, 3) := by decide +kernel
theorem dX8_answer_8 : decode cX8_answer 8 = .ok (.iload 4, 2) := by decide +kernel
theorem dX8_answer_10 : decode cX8_answer 10 = .ok (.ifCond .lt 7, 3) := by decide +kernel
theorem dX8_answer_13 : decode cX8_answer 13 = .ok (.iconst 1, 1) := by decide +kernel
theorem dX8_answer_14 : decode cX8_answer 14 = .ok (.goto 4, 3) := by decide +kernel
theorem dX8_answer_17 : decode cX8_answer 17 = .ok (.iconst 0, 1) := by decide +kernel
theorem dX8_answer_18 : decode cX8_answer 18 = .ok (.istore 5, 2) := by decide +kernel
theorem dX8_answer_20 : decode cX8_answer 20 = .ok (.aload_n 0, 1) := by decide +kernel
theorem dX8_answer_21 : decode cX8_answer 21 = .ok (.iload 5, 2) := by decide +kernel
theorem dX8_answer_23 : decode cX8_answer 23 = .ok (.ifCond .ne 7, 3) := by decide +kernel
theorem dX8_answer_26 : decode cX8_answer 26 = .ok (.iconst 1, 1) := by decide +kernel
theorem dX8_answer_27 : decode cX8_answer 27 = .ok (.goto 18, 3) := by decide +kernel
theorem dX8_answer_30 : decode cX8_answer 30 = .ok (.iload_n 3, 1) := by decide +kernel
theorem dX8_answer_31 : decode cX8_answer 31 = .ok (.iconst 0, 1) := by decide +kernel
theorem dX8_answer_32 : decode cX8_answer 32 = .ok (.bipush 19, 2) := by decide +kernel
theorem dX8_answer_34 : decode cX8_answer 34 = .ok (.invokestatic 131, 3) := by decide +kernel
theorem dX8_answer_37 : decode cX8_answer 37 = .ok (.ifCond .ne 7, 3) := by decide +kernel
theorem dX8_answer_40 : decode cX8_answer 40 = .ok (.iconst 2, 1) := by decide +kernel
theorem dX8_answer_41 : decode cX8_answer 41 = .ok (.goto 4, 3) := by decide +kernel
theorem dX8_answer_44 : decode cX8_answer 44 = .ok (.iconst 0, 1) := by decide +kernel
theorem dX8_answer_45 : decode cX8_answer 45 = .ok (.invokevirtual 138, 3) := by decide +kernel
theorem dX8_answer_48 : decode cX8_answer 48 = .ok (.ifCond .ne 5, 3) := by decide +kernel
theorem dX8_answer_51 : decode cX8_answer 51 = .ok (.iconst 0, 1) := by decide +kernel
theorem dX8_answer_52 : decode cX8_answer 52 = .ok (.ireturn, 1) := by decide +kernel
theorem dX8_answer_53 : decode cX8_answer 53 = .ok (.aload_n 0, 1) := by decide +kernel
theorem dX8_answer_54 : decode cX8_answer 54 = .ok (.iload_n 1, 1) := by decide +kernel
theorem dX8_answer_55 : decode cX8_answer 55 = .ok (.iload_n 2, 1) := by decide +kernel
theorem dX8_answer_56 : decode cX8_answer 56 = .ok (.iload_n 3, 1) := by decide +kernel
theorem dX8_answer_57 : decode cX8_answer 57 = .ok (.invokevirtual 317, 3) := by decide +kernel
theorem dX8_answer_60 : decode cX8_answer 60 = .ok (.iload_n 3, 1) := by decide +kernel
theorem dX8_answer_61 : decode cX8_answer 61 = .ok (.if_icmp .le 12, 3) := by decide +kernel
theorem dX8_answer_64 : decode cX8_answer 64 = .ok (.aload_n 0, 1) := by decide +kernel
theorem dX8_answer_65 : decode cX8_answer 65 = .ok (.iload 4, 2) := by decide +kernel
theorem dX8_answer_67 : decode cX8_answer 67 = .ok (.invokevirtual 321, 3) := by decide +kernel
theorem dX8_answer_70 : decode cX8_answer 70 = .ok (.goto 4, 3) := by decide +kernel
theorem dX8_answer_73 : decode cX8_answer 73 = .ok (.iconst (-1), 1) := by decide +kernel
theorem dX8_answer_74 : decode cX8_answer 74 = .ok (.ireturn, 1) := by decide +kernel
set_option maxRecDepth 20000 in
theorem ggX8_answers_X8_isMachine : GoodIn wsX8_answers wsX8_isMachine := goodIn_r _ [5, 6, 7, 8, 4, 9, 75, 76, 77, 78, 79, 80, 81, 82, 83, 84, 85, 86, 87, 88, 89, 90, 91, 92, 93, 94, 95, 96, 97, 98, 99, 100, 101, 102, 103, 104, 105, 106, 107, 108, 109, 110, 111, 112, 113, 114, 115, 116, 117, 118, 119, 120, 121] rfl (by decide +kernel)
set_option maxRecDepth 20000 in
theorem gX8_answers_X8_isMachine : GoodIn wsX8_answers (wsV RX8 204 RX8 yX8_isMachine wsX8_isMachine) := goodIn_app (goodIn_of _ (by decide +kernel)) ggX8_answers_X8_isMachine
set_option maxRecDepth 20000 in
theorem ggX8_answers_X8_isFine : GoodIn wsX8_answers wsX8_isFine := goodIn_r _ [13, 14, 75, 76, 77, 78, 79, 80, 81, 82, 83, 84, 85, 86, 87, 88, 89, 90, 91, 92, 93, 94, 95, 96, 97, 98, 99, 100, 101, 102, 103, 104, 105, 106, 107, 108, 109, 110, 111, 112, 113, 114, 115, 116, 117, 118, 119, 120, 121] rfl (by decide +kernel)
set_option maxRecDepth 20000 in
theorem gX8_answers_X8_isFine : GoodIn wsX8_answers (wsV RX8 138 RX8 yX8_isFine wsX8_isFine) := goodIn_app (goodIn_of _ (by decide +kernel)) ggX8_answers_X8_isFine
set_option maxRecDepth 20000 in
theorem ggX8_answers_X8_answersTo : GoodIn wsX8_answers wsX8_answersTo := goodIn_r _ [18, 19, 20, 21, 22, 23, 24, 25, 26, 27, 4, 28, 29, 30, 31, 32, 33, 34, 35, 36, 37, 38, 39, 40, 41, 42, 43, 44, 45, 46, 47, 48, 49, 50, 51, 52, 53, 54, 55, 56, 57, 58, 59, 60, 61, 62, 63, 64, 65, 66, 67, 68, 69, 70, 71, 72, 73, 74, 75, 76, 77, 78, 79, 80, 81, 82, 83, 84, 85, 86, 87, 88, 89, 90, 91, 92, 93, 94, 95, 96, 97, 98, 99, 100, 101, 102, 103, 104, 105, 106, 107, 108, 109, 110, 111, 112, 113, 114, 115, 116, 117, 118, 119, 120, 121] rfl (by decide +kernel)
set_option maxRecDepth 20000 in
theorem gX8_answers_X8_answersTo : GoodIn wsX8_answers (wsV RX8 317 RX8 yX8_answersTo wsX8_answersTo) := goodIn_app (goodIn_of _ (by decide +kernel)) ggX8_answers_X8_answersTo
theorem dX8_answers_0 : decode cX8_answers 0 = .ok (.aload_n 0, 1) := by decide +kernel
theorem dX8_answers_1 : decode cX8_answers 1 = .ok (.aload_n 0, 1) := by decide +kernel
theorem dX8_answers_2 : decode cX8_answers 2 = .ok (.iload_n 1, 1) := by decide +kernel
theorem dX8_answers_3 : decode cX8_answers 3 = .ok (.invokevirtual 204, 3) := by decide +kernel
theorem dX8_answers_6 : decode cX8_answers 6 = .ok (.ifCond .eq 7, 3) := by decide +kernel
theorem dX8_answers_9 : decode cX8_answers 9 = .ok (.iconst 0, 1) := by decide +kernel
theorem dX8_answers_10 : decode cX8_answers 10 = .ok (.goto 4, 3) := by decide +kernel
theorem dX8_answers_13 : decode cX8_answers 13 = .ok (.iconst 1, 1) := by decide +kernel
theorem dX8_answers_14 : decode cX8_answers 14 = .ok (.invokevirtual 138, 3) := by decide +kernel
theorem dX8_answers_17 : decode cX8_answers 17 = .ok (.ifCond .eq 14, 3) := by decide +kernel
theorem dX8_answers_20 : decode cX8_answers 20 = .ok (.aload_n 0, 1) := by decide +kernel
theorem dX8_answers_21 : decode cX8_answers 21 = .ok (.iload_n 1, 1) := by decide +kernel
theorem dX8_answers_22 : decode cX8_answers 22 = .ok (.iload_n 2, 1) := by decide +kernel
theorem dX8_answers_23 : decode cX8_answers 23 = .ok (.bipush 19, 2) := by decide +kernel
theorem dX8_answers_25 : decode cX8_answers 25 = .ok (.invokevirtual 317, 3) := by decide +kernel
theorem dX8_answers_28 : decode cX8_answers 28 = .ok (.goto 4, 3) := by decide +kernel
theorem dX8_answers_31 : decode cX8_answers 31 = .ok (.iconst 0, 1) := by decide +kernel
theorem dX8_answers_32 : decode cX8_answers 32 = .ok (.ireturn, 1) := by decide +kernel
set_option maxRecDepth 20000 in
theorem ggX8_cost_X8_isMachine : GoodIn wsX8_cost wsX8_isMachine := goodIn_r _ [7, 8, 9, 10, 6, 11, 42, 43, 44, 45, 46, 47, 48, 49, 50, 51, 52, 53, 54, 55, 56, 57, 58, 59, 60, 61, 62, 63, 64, 65, 66, 67, 68, 69, 70, 71, 72, 73, 74, 75, 76, 77, 78, 79, 80, 81, 82, 83, 84, 85, 86, 87, 88] rfl (by decide +kernel)
set_option maxRecDepth 20000 in
theorem gX8_cost_X8_isMachine : GoodIn wsX8_cost (wsV RX8 204 RX8 yX8_isMachine wsX8_isMachine) := goodIn_app (goodIn_of _ (by decide +kernel)) ggX8_cost_X8_isMachine
set_option maxRecDepth 20000 in
theorem ggX8_cost_X8_isFine : GoodIn wsX8_cost wsX8_isFine := goodIn_r _ [15, 16, 42, 43, 44, 45, 46, 47, 48, 49, 50, 51, 52, 53, 54, 55, 56, 57, 58, 59, 60, 61, 62, 63, 64, 65, 66, 67, 68, 69, 70, 71, 72, 73, 74, 75, 76, 77, 78, 79, 80, 81, 82, 83, 84, 85, 86, 87, 88] rfl (by decide +kernel)
set_option maxRecDepth 20000 in
theorem gX8_cost_X8_isFine : GoodIn wsX8_cost (wsV RX8 138 RX8 yX8_isFine wsX8_isFine) := goodIn_app (goodIn_of _ (by decide +kernel)) ggX8_cost_X8_isFine
set_option maxRecDepth 20000 in
theorem ggX8_cost_X8_rests : GoodIn wsX8_cost wsX8_rests := goodIn_r _ [20, 1, 21, 2, 22, 23, 24, 25, 26, 27, 28, 6, 29, 30, 31, 32, 33, 34, 35, 36, 37, 38, 39, 40, 41, 42, 43, 44, 45, 46, 47, 48, 49, 50, 51, 52, 53, 54, 55, 56, 57, 58, 59, 60, 61, 62, 63, 64, 65, 66, 67, 68, 69, 70, 71, 72, 73, 74, 75, 76, 77, 78, 79, 80, 81, 82, 83, 84, 85, 86, 87, 88] rfl (by decide +kernel)
set_option maxRecDepth 20000 in
theorem gX8_cost_X8_rests : GoodIn wsX8_cost (wsV RX8 303 RX8 yX8_rests wsX8_rests) := goodIn_app (goodIn_of _ (by decide +kernel)) ggX8_cost_X8_rests
theorem dX8_cost_0 : decode cX8_cost 0 = .ok (.aload_n 0, 1) := by decide +kernel
theorem dX8_cost_1 : decode cX8_cost 1 = .ok (.aload_n 0, 1) := by decide +kernel
theorem dX8_cost_2 : decode cX8_cost 2 = .ok (.iload_n 1, 1) := by decide +kernel
theorem dX8_cost_3 : decode cX8_cost 3 = .ok (.invokevirtual 204, 3) := by decide +kernel
theorem dX8_cost_6 : decode cX8_cost 6 = .ok (.ifCond .eq 7, 3) := by decide +kernel
theorem dX8_cost_9 : decode cX8_cost 9 = .ok (.iconst 0, 1) := by decide +kernel
theorem dX8_cost_10 : decode cX8_cost 10 = .ok (.goto 4, 3) := by decide +kernel
theorem dX8_cost_13 : decode cX8_cost 13 = .ok (.iconst 1, 1) := by decide +kernel
theorem dX8_cost_14 : decode cX8_cost 14 = .ok (.invokevirtual 138, 3) := by decide +kernel
theorem dX8_cost_17 : decode cX8_cost 17 = .ok (.ifCond .ne 5, 3) := by decide +kernel
theorem dX8_cost_20 : decode cX8_cost 20 = .ok (.iconst 0, 1) := by decide +kernel
theorem dX8_cost_21 : decode cX8_cost 21 = .ok (.ireturn, 1) := by decide +kernel
theorem dX8_cost_22 : decode cX8_cost 22 = .ok (.aload_n 0, 1) := by decide +kernel
theorem dX8_cost_23 : decode cX8_cost 23 = .ok (.iload_n 1, 1) := by decide +kernel
theorem dX8_cost_24 : decode cX8_cost 24 = .ok (.iload_n 2, 1) := by decide +kernel
theorem dX8_cost_25 : decode cX8_cost 25 = .ok (.invokevirtual 303, 3) := by decide +kernel
theorem dX8_cost_28 : decode cX8_cost 28 = .ok (.aload_n 0, 1) := by decide +kernel
theorem dX8_cost_29 : decode cX8_cost 29 = .ok (.getfield 96, 3) := by decide +kernel
theorem dX8_cost_32 : decode cX8_cost 32 = .ok (.iconst 0, 1) := by decide +kernel
theorem dX8_cost_33 : decode cX8_cost 33 = .ok (.iaload, 1) := by decide +kernel
theorem dX8_cost_34 : decode cX8_cost 34 = .ok (.ldc_w 284, 3) := by decide +kernel
theorem dX8_cost_37 : decode cX8_cost 37 = .ok (.if_icmp .ne 7, 3) := by decide +kernel
theorem dX8_cost_40 : decode cX8_cost 40 = .ok (.iconst (-1), 1) := by decide +kernel
theorem dX8_cost_41 : decode cX8_cost 41 = .ok (.goto 9, 3) := by decide +kernel
theorem dX8_cost_44 : decode cX8_cost 44 = .ok (.aload_n 0, 1) := by decide +kernel
theorem dX8_cost_45 : decode cX8_cost 45 = .ok (.getfield 96, 3) := by decide +kernel
theorem dX8_cost_48 : decode cX8_cost 48 = .ok (.iconst 0, 1) := by decide +kernel
theorem dX8_cost_49 : decode cX8_cost 49 = .ok (.iaload, 1) := by decide +kernel
theorem dX8_cost_50 : decode cX8_cost 50 = .ok (.ireturn, 1) := by decide +kernel
set_option maxRecDepth 20000 in
theorem ggX8_closesHere_X8_outOf : GoodIn wsX8_closesHere wsX8_outOf := goodIn_r _ [12, 13, 14, 24, 25, 26, 27, 28, 29, 30, 31, 32, 33, 34, 35, 36, 37, 38, 39, 40, 41, 42, 43, 44, 45, 46, 47, 48, 49, 50, 51, 52, 53, 54, 55, 56, 57, 58, 59, 60, 61, 62, 63, 64, 65, 66, 67, 68, 69, 70] rfl (by decide +kernel)
set_option maxRecDepth 20000 in
theorem gX8_closesHere_X8_outOf : GoodIn wsX8_closesHere (wsV RX8 289 RX8 yX8_outOf wsX8_outOf) := goodIn_app (goodIn_of _ (by decide +kernel)) ggX8_closesHere_X8_outOf
set_option maxRecDepth 20000 in
theorem ggX8_closesHere_X8_behind : GoodIn wsX8_closesHere wsX8_behind := goodIn_r _ [18, 2, 19, 20, 21, 22, 11, 23, 14, 13, 24, 25, 26, 27, 28, 29, 30, 31, 32, 33, 34, 35, 36, 37, 38, 39, 40, 41, 42, 43, 44, 45, 46, 47, 48, 49, 50, 51, 52, 53, 54, 55, 56, 57, 58, 59, 60, 61, 62, 63, 64, 65, 66, 67, 68, 69, 70] rfl (by decide +kernel)
set_option maxRecDepth 20000 in
theorem gX8_closesHere_X8_behind : GoodIn wsX8_closesHere (wsV RX8 285 RX8 yX8_behind wsX8_behind) := goodIn_app (goodIn_of _ (by decide +kernel)) ggX8_closesHere_X8_behind
theorem dX8_closesHere_0 : decode cX8_closesHere 0 = .ok (.iconst 1, 1) := by decide +kernel
theorem dX8_closesHere_1 : decode cX8_closesHere 1 = .ok (.istore_n 3, 1) := by decide +kernel
theorem dX8_closesHere_2 : decode cX8_closesHere 2 = .ok (.iload_n 3, 1) := by decide +kernel
theorem dX8_closesHere_3 : decode cX8_closesHere 3 = .ok (.ifCond .eq 219, 3) := by decide +kernel
theorem dX8_closesHere_6 : decode cX8_closesHere 6 = .ok (.iconst 0, 1) := by decide +kernel
theorem dX8_closesHere_7 : decode cX8_closesHere 7 = .ok (.istore_n 3, 1) := by decide +kernel
theorem dX8_closesHere_8 : decode cX8_closesHere 8 = .ok (.sipush 160, 3) := by decide +kernel
theorem dX8_closesHere_11 : decode cX8_closesHere 11 = .ok (.iload_n 1, 1) := by decide +kernel
theorem dX8_closesHere_12 : decode cX8_closesHere 12 = .ok (.imul, 1) := by decide +kernel
theorem dX8_closesHere_13 : decode cX8_closesHere 13 = .ok (.istore 4, 2) := by decide +kernel
theorem dX8_closesHere_15 : decode cX8_closesHere 15 = .ok (.iload 4, 2) := by decide +kernel
theorem dX8_closesHere_17 : decode cX8_closesHere 17 = .ok (.sipush 160, 3) := by decide +kernel
theorem dX8_closesHere_20 : decode cX8_closesHere 20 = .ok (.iload_n 1, 1) := by decide +kernel
theorem dX8_closesHere_21 : decode cX8_closesHere 21 = .ok (.imul, 1) := by decide +kernel
theorem dX8_closesHere_22 : decode cX8_closesHere 22 = .ok (.aload_n 0, 1) := by decide +kernel
theorem dX8_closesHere_23 : decode cX8_closesHere 23 = .ok (.getfield 19, 3) := by decide +kernel
theorem dX8_closesHere_26 : decode cX8_closesHere 26 = .ok (.iload_n 1, 1) := by decide +kernel
theorem dX8_closesHere_27 : decode cX8_closesHere 27 = .ok (.iaload, 1) := by decide +kernel
theorem dX8_closesHere_28 : decode cX8_closesHere 28 = .ok (.iadd, 1) := by decide +kernel
theorem dX8_closesHere_29 : decode cX8_closesHere 29 = .ok (.if_icmp .ge 190, 3) := by decide +kernel
theorem dX8_closesHere_32 : decode cX8_closesHere 32 = .ok (.iconst 0, 1) := by decide +kernel
theorem dX8_closesHere_33 : decode cX8_closesHere 33 = .ok (.istore 5, 2) := by decide +kernel
theorem dX8_closesHere_35 : decode cX8_closesHere 35 = .ok (.iload 5, 2) := by decide +kernel
theorem dX8_closesHere_37 : decode cX8_closesHere 37 = .ok (.aload_n 0, 1) := by decide +kernel
theorem dX8_closesHere_38 : decode cX8_closesHere 38 = .ok (.getfield 135, 3) := by decide +kernel
theorem dX8_closesHere_41 : decode cX8_closesHere 41 = .ok (.if_icmp .gt 172, 3) := by decide +kernel
theorem dX8_closesHere_44 : decode cX8_closesHere 44 = .ok (.aload_n 0, 1) := by decide +kernel
theorem dX8_closesHere_45 : decode cX8_closesHere 45 = .ok (.iload 4, 2) := by decide +kernel
theorem dX8_closesHere_47 : decode cX8_closesHere 47 = .ok (.iload_n 2, 1) := by decide +kernel
theorem dX8_closesHere_48 : decode cX8_closesHere 48 = .ok (.invokevirtual 289, 3) := by decide +kernel
theorem dX8_closesHere_51 : decode cX8_closesHere 51 = .ok (.bipush 8, 2) := by decide +kernel
theorem dX8_closesHere_53 : decode cX8_closesHere 53 = .ok (.if_icmp .ne 160, 3) := by decide +kernel
theorem dX8_closesHere_56 : decode cX8_closesHere 56 = .ok (.aload_n 0, 1) := by decide +kernel
theorem dX8_closesHere_57 : decode cX8_closesHere 57 = .ok (.iload 4, 2) := by decide +kernel
theorem dX8_closesHere_59 : decode cX8_closesHere 59 = .ok (.iload 5, 2) := by decide +kernel
theorem dX8_closesHere_61 : decode cX8_closesHere 61 = .ok (.iload_n 2, 1) := by decide +kernel
theorem dX8_closesHere_62 : decode cX8_closesHere 62 = .ok (.invokevirtual 285, 3) := by decide +kernel
theorem dX8_closesHere_65 : decode cX8_closesHere 65 = .ok (.istore 6, 2) := by decide +kernel
theorem dX8_closesHere_67 : decode cX8_closesHere 67 = .ok (.iload 6, 2) := by decide +kernel
theorem dX8_closesHere_69 : decode cX8_closesHere 69 = .ok (.iconst (-1), 1) := by decide +kernel
theorem dX8_closesHere_70 : decode cX8_closesHere 70 = .ok (.if_icmp .eq 27, 3) := by decide +kernel
theorem dX8_closesHere_73 : decode cX8_closesHere 73 = .ok (.aload_n 0, 1) := by decide +kernel
theorem dX8_closesHere_74 : decode cX8_closesHere 74 = .ok (.getfield 99, 3) := by decide +kernel
theorem dX8_closesHere_77 : decode cX8_closesHere 77 = .ok (.bipush 32, 2) := by decide +kernel
theorem dX8_closesHere_79 : decode cX8_closesHere 79 = .ok (.iload 5, 2) := by decide +kernel
theorem dX8_closesHere_81 : decode cX8_closesHere 81 = .ok (.imul, 1) := by decide +kernel
theorem dX8_closesHere_82 : decode cX8_closesHere 82 = .ok (.aload_n 0, 1) := by decide +kernel
theorem dX8_closesHere_83 : decode cX8_closesHere 83 = .ok (.getfield 22, 3) := by decide +kernel
theorem dX8_closesHere_86 : decode cX8_closesHere 86 = .ok (.iload 4, 2) := by decide +kernel
theorem dX8_closesHere_88 : decode cX8_closesHere 88 = .ok (.iaload, 1) := by decide +kernel
theorem dX8_closesHere_89 : decode cX8_closesHere 89 = .ok (.iadd, 1) := by decide +kernel
theorem dX8_closesHere_90 : decode cX8_closesHere 90 = .ok (.iaload, 1) := by decide +kernel
theorem dX8_closesHere_91 : decode cX8_closesHere 91 = .ok (.ldc_w 284, 3) := by decide +kernel
theorem dX8_closesHere_94 : decode cX8_closesHere 94 = .ok (.if_icmp .ne 9, 3) := by decide +kernel
theorem dX8_closesHere_97 : decode cX8_closesHere 97 = .ok (.ldc_w 284, 3) := by decide +kernel
theorem dX8_closesHere_100 : decode cX8_closesHere 100 = .ok (.goto 29, 3) := by decide +kernel
theorem dX8_closesHere_103 : decode cX8_closesHere 103 = .ok (.aload_n 0, 1) := by decide +kernel
theorem dX8_closesHere_104 : decode cX8_closesHere 104 = .ok (.getfield 99, 3) := by decide +kernel
theorem dX8_closesHere_107 : decode cX8_closesHere 107 = .ok (.bipush 32, 2) := by decide +kernel
theorem dX8_closesHere_109 : decode cX8_closesHere 109 = .ok (.iload 5, 2) := by decide +kernel
theorem dX8_closesHere_111 : decode cX8_closesHere 111 = .ok (.imul, 1) := by decide +kernel
theorem dX8_closesHere_112 : decode cX8_closesHere 112 = .ok (.aload_n 0, 1) := by decide +kernel
theorem dX8_closesHere_113 : decode cX8_closesHere 113 = .ok (.getfield 22, 3) := by decide +kernel
theorem dX8_closesHere_116 : decode cX8_closesHere 116 = .ok (.iload 4, 2) := by decide +kernel
theorem dX8_closesHere_118 : decode cX8_closesHere 118 = .ok (.iaload, 1) := by decide +kernel
theorem dX8_closesHere_119 : decode cX8_closesHere 119 = .ok (.iadd, 1) := by decide +kernel
theorem dX8_closesHere_120 : decode cX8_closesHere 120 = .ok (.iaload, 1) := by decide +kernel
theorem dX8_closesHere_121 : decode cX8_closesHere 121 = .ok (.aload_n 0, 1) := by decide +kernel
theorem dX8_closesHere_122 : decode cX8_closesHere 122 = .ok (.getfield 31, 3) := by decide +kernel
theorem dX8_closesHere_125 : decode cX8_closesHere 125 = .ok (.iload 4, 2) := by decide +kernel
theorem dX8_closesHere_127 : decode cX8_closesHere 127 = .ok (.iaload, 1) := by decide +kernel
theorem dX8_closesHere_128 : decode cX8_closesHere 128 = .ok (.iadd, 1) := by decide +kernel
theorem dX8_closesHere_129 : decode cX8_closesHere 129 = .ok (.istore 7, 2) := by decide +kernel
theorem dX8_closesHere_131 : decode cX8_closesHere 131 = .ok (.iload 6, 2) := by decide +kernel
theorem dX8_closesHere_133 : decode cX8_closesHere 133 = .ok (.iconst (-1), 1) := by decide +kernel
theorem dX8_closesHere_134 : decode cX8_closesHere 134 = .ok (.if_icmp .eq 30, 3) := by decide +kernel
theorem dX8_closesHere_137 : decode cX8_closesHere 137 = .ok (.iload 7, 2) := by decide +kernel
theorem dX8_closesHere_139 : decode cX8_closesHere 139 = .ok (.aload_n 0, 1) := by decide +kernel
theorem dX8_closesHere_140 : decode cX8_closesHere 140 = .ok (.getfield 99, 3) := by decide +kernel
theorem dX8_closesHere_143 : decode cX8_closesHere 143 = .ok (.bipush 32, 2) := by decide +kernel
theorem dX8_closesHere_145 : decode cX8_closesHere 145 = .ok (.iload 6, 2) := by decide +kernel
theorem dX8_closesHere_147 : decode cX8_closesHere 147 = .ok (.imul, 1) := by decide +kernel
theorem dX8_closesHere_148 : decode cX8_closesHere 148 = .ok (.aload_n 0, 1) := by decide +kernel
theorem dX8_closesHere_149 : decode cX8_closesHere 149 = .ok (.getfield 34, 3) := by decide +kernel
theorem dX8_closesHere_152 : decode cX8_closesHere 152 = .ok (.iload 4, 2) := by decide +kernel
theorem dX8_closesHere_154 : decode cX8_closesHere 154 = .ok (.iaload, 1) := by decide +kernel
theorem dX8_closesHere_155 : decode cX8_closesHere 155 = .ok (.iadd, 1) := by decide +kernel
theorem dX8_closesHere_156 : decode cX8_closesHere 156 = .ok (.iaload, 1) := by decide +kernel
theorem dX8_closesHere_157 : decode cX8_closesHere 157 = .ok (.if_icmp .ge 7, 3) := by decide +kernel
theorem dX8_closesHere_160 : decode cX8_closesHere 160 = .ok (.iconst 1, 1) := by decide +kernel
theorem dX8_closesHere_161 : decode cX8_closesHere 161 = .ok (.goto 4, 3) := by decide +kernel
theorem dX8_closesHere_164 : decode cX8_closesHere 164 = .ok (.iconst 0, 1) := by decide +kernel
theorem dX8_closesHere_165 : decode cX8_closesHere 165 = .ok (.istore 8, 2) := by decide +kernel
theorem dX8_closesHere_167 : decode cX8_closesHere 167 = .ok (.iload 8, 2) := by decide +kernel
theorem dX8_closesHere_169 : decode cX8_closesHere 169 = .ok (.ifCond .eq 23, 3) := by decide +kernel
theorem dX8_closesHere_172 : decode cX8_closesHere 172 = .ok (.aload_n 0, 1) := by decide +kernel
theorem dX8_closesHere_173 : decode cX8_closesHere 173 = .ok (.getfield 99, 3) := by decide +kernel
theorem dX8_closesHere_176 : decode cX8_closesHere 176 = .ok (.bipush 32, 2) := by decide +kernel
theorem dX8_closesHere_178 : decode cX8_closesHere 178 = .ok (.iload 6, 2) := by decide +kernel
theorem dX8_closesHere_180 : decode cX8_closesHere 180 = .ok (.imul, 1) := by decide +kernel
theorem dX8_closesHere_181 : decode cX8_closesHere 181 = .ok (.aload_n 0, 1) := by decide +kernel
theorem dX8_closesHere_182 : decode cX8_closesHere 182 = .ok (.getfield 34, 3) := by decide +kernel
theorem dX8_closesHere_185 : decode cX8_closesHere 185 = .ok (.iload 4, 2) := by decide +kernel
theorem dX8_closesHere_187 : decode cX8_closesHere 187 = .ok (.iaload, 1) := by decide +kernel
theorem dX8_closesHere_188 : decode cX8_closesHere 188 = .ok (.iadd, 1) := by decide +kernel
theorem dX8_closesHere_189 : decode cX8_closesHere 189 = .ok (.iload 7, 2) := by decide +kernel
theorem dX8_closesHere_191 : decode cX8_closesHere 191 = .ok (.iastore, 1) := by decide +kernel
