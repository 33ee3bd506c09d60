theorem dX8_init_0 : decode cX8_init 0 = .ok (.aload_n 0, 1) := by decide +kernel
theorem dX8_init_1 : decode cX8_init 1 = .ok (.invokespecial 1, 3) := by decide +kernel
theorem dX8_init_4 : decode cX8_init 4 = .ok (.aload_n 0, 1) := by decide +kernel
theorem dX8_init_5 : decode cX8_init 5 = .ok (.bipush 8, 2) := by decide +kernel
theorem dX8_init_7 : decode cX8_init 7 = .ok (.newarray .int, 2) := by decide +kernel
theorem dX8_init_9 : decode cX8_init 9 = .ok (.putfield 7, 3) := by decide +kernel
theorem dX8_init_12 : decode cX8_init 12 = .ok (.aload_n 0, 1) := by decide +kernel
theorem dX8_init_13 : decode cX8_init 13 = .ok (.bipush 24, 2) := by decide +kernel
theorem dX8_init_15 : decode cX8_init 15 = .ok (.newarray .int, 2) := by decide +kernel
theorem dX8_init_17 : decode cX8_init 17 = .ok (.putfield 13, 3) := by decide +kernel
theorem dX8_init_20 : decode cX8_init 20 = .ok (.aload_n 0, 1) := by decide +kernel
theorem dX8_init_21 : decode cX8_init 21 = .ok (.bipush 24, 2) := by decide +kernel
theorem dX8_init_23 : decode cX8_init 23 = .ok (.newarray .int, 2) := by decide +kernel
theorem dX8_init_25 : decode cX8_init 25 = .ok (.putfield 16, 3) := by decide +kernel
theorem dX8_init_28 : decode cX8_init 28 = .ok (.aload_n 0, 1) := by decide +kernel
theorem dX8_init_29 : decode cX8_init 29 = .ok (.bipush 24, 2) := by decide +kernel
theorem dX8_init_31 : decode cX8_init 31 = .ok (.newarray .int, 2) := by decide +kernel
theorem dX8_init_33 : decode cX8_init 33 = .ok (.putfield 19, 3) := by decide +kernel
theorem dX8_init_36 : decode cX8_init 36 = .ok (.aload_n 0, 1) := by decide +kernel
theorem dX8_init_37 : decode cX8_init 37 = .ok (.sipush 3840, 3) := by decide +kernel
theorem dX8_init_40 : decode cX8_init 40 = .ok (.newarray .int, 2) := by decide +kernel
theorem dX8_init_42 : decode cX8_init 42 = .ok (.putfield 22, 3) := by decide +kernel
theorem dX8_init_45 : decode cX8_init 45 = .ok (.aload_n 0, 1) := by decide +kernel
theorem dX8_init_46 : decode cX8_init 46 = .ok (.sipush 3840, 3) := by decide +kernel
theorem dX8_init_49 : decode cX8_init 49 = .ok (.newarray .int, 2) := by decide +kernel
theorem dX8_init_51 : decode cX8_init 51 = .ok (.putfield 25, 3) := by decide +kernel
theorem dX8_init_54 : decode cX8_init 54 = .ok (.aload_n 0, 1) := by decide +kernel
theorem dX8_init_55 : decode cX8_init 55 = .ok (.sipush 3840, 3) := by decide +kernel
theorem dX8_init_58 : decode cX8_init 58 = .ok (.newarray .int, 2) := by decide +kernel
theorem dX8_init_60 : decode cX8_init 60 = .ok (.putfield 28, 3) := by decide +kernel
theorem dX8_init_63 : decode cX8_init 63 = .ok (.aload_n 0, 1) := by decide +kernel
theorem dX8_init_64 : decode cX8_init 64 = .ok (.sipush 3840, 3) := by decide +kernel
theorem dX8_init_67 : decode cX8_init 67 = .ok (.newarray .int, 2) := by decide +kernel
theorem dX8_init_69 : decode cX8_init 69 = .ok (.putfield 31, 3) := by decide +kernel
theorem dX8_init_72 : decode cX8_init 72 = .ok (.aload_n 0, 1) := by decide +kernel
theorem dX8_init_73 : decode cX8_init 73 = .ok (.sipush 3840, 3) := by decide +kernel
theorem dX8_init_76 : decode cX8_init 76 = .ok (.newarray .int, 2) := by decide +kernel
theorem dX8_init_78 : decode cX8_init 78 = .ok (.putfield 34, 3) := by decide +kernel
theorem dX8_init_81 : decode cX8_init 81 = .ok (.aload_n 0, 1) := by decide +kernel
theorem dX8_init_82 : decode cX8_init 82 = .ok (.ldc 37, 2) := by decide +kernel
theorem dX8_init_84 : decode cX8_init 84 = .ok (.newarray .int, 2) := by decide +kernel
theorem dX8_init_86 : decode cX8_init 86 = .ok (.putfield 38, 3) := by decide +kernel
theorem dX8_init_89 : decode cX8_init 89 = .ok (.aload_n 0, 1) := by decide +kernel
theorem dX8_init_90 : decode cX8_init 90 = .ok (.ldc 37, 2) := by decide +kernel
theorem dX8_init_92 : decode cX8_init 92 = .ok (.newarray .int, 2) := by decide +kernel
theorem dX8_init_94 : decode cX8_init 94 = .ok (.putfield 41, 3) := by decide +kernel
theorem dX8_init_97 : decode cX8_init 97 = .ok (.aload_n 0, 1) := by decide +kernel
theorem dX8_init_98 : decode cX8_init 98 = .ok (.sipush 1024, 3) := by decide +kernel
theorem dX8_init_101 : decode cX8_init 101 = .ok (.newarray .boolean, 2) := by decide +kernel
theorem dX8_init_103 : decode cX8_init 103 = .ok (.putfield 44, 3) := by decide +kernel
theorem dX8_init_106 : decode cX8_init 106 = .ok (.aload_n 0, 1) := by decide +kernel
theorem dX8_init_107 : decode cX8_init 107 = .ok (.sipush 1024, 3) := by decide +kernel
theorem dX8_init_110 : decode cX8_init 110 = .ok (.newarray .boolean, 2) := by decide +kernel
theorem dX8_init_112 : decode cX8_init 112 = .ok (.putfield 48, 3) := by decide +kernel
theorem dX8_init_115 : decode cX8_init 115 = .ok (.aload_n 0, 1) := by decide +kernel
theorem dX8_init_116 : decode cX8_init 116 = .ok (.sipush 1024, 3) := by decide +kernel
theorem dX8_init_119 : decode cX8_init 119 = .ok (.newarray .boolean, 2) := by decide +kernel
theorem dX8_init_121 : decode cX8_init 121 = .ok (.putfield 51, 3) := by decide +kernel
theorem dX8_init_124 : decode cX8_init 124 = .ok (.aload_n 0, 1) := by decide +kernel
theorem dX8_init_125 : decode cX8_init 125 = .ok (.sipush 1024, 3) := by decide +kernel
theorem dX8_init_128 : decode cX8_init 128 = .ok (.newarray .int, 2) := by decide +kernel
theorem dX8_init_130 : decode cX8_init 130 = .ok (.putfield 54, 3) := by decide +kernel
theorem dX8_init_133 : decode cX8_init 133 = .ok (.aload_n 0, 1) := by decide +kernel
theorem dX8_init_134 : decode cX8_init 134 = .ok (.bipush 33, 2) := by decide +kernel
theorem dX8_init_136 : decode cX8_init 136 = .ok (.newarray .int, 2) := by decide +kernel
theorem dX8_init_138 : decode cX8_init 138 = .ok (.putfield 57, 3) := by decide +kernel
theorem dX8_init_141 : decode cX8_init 141 = .ok (.aload_n 0, 1) := by decide +kernel
theorem dX8_init_142 : decode cX8_init 142 = .ok (.sipush 160, 3) := by decide +kernel
theorem dX8_init_145 : decode cX8_init 145 = .ok (.newarray .int, 2) := by decide +kernel
theorem dX8_init_147 : decode cX8_init 147 = .ok (.putfield 60, 3) := by decide +kernel
theorem dX8_init_150 : decode cX8_init 150 = .ok (.aload_n 0, 1) := by decide +kernel
theorem dX8_init_151 : decode cX8_init 151 = .ok (.sipush 160, 3) := by decide +kernel
theorem dX8_init_154 : decode cX8_init 154 = .ok (.newarray .int, 2) := by decide +kernel
theorem dX8_init_156 : decode cX8_init 156 = .ok (.putfield 63, 3) := by decide +kernel
theorem dX8_init_159 : decode cX8_init 159 = .ok (.aload_n 0, 1) := by decide +kernel
theorem dX8_init_160 : decode cX8_init 160 = .ok (.sipush 160, 3) := by decide +kernel
theorem dX8_init_163 : decode cX8_init 163 = .ok (.newarray .int, 2) := by decide +kernel
theorem dX8_init_165 : decode cX8_init 165 = .ok (.putfield 66, 3) := by decide +kernel
theorem dX8_init_168 : decode cX8_init 168 = .ok (.aload_n 0, 1) := by decide +kernel
theorem dX8_init_169 : decode cX8_init 169 = .ok (.sipush 160, 3) := by decide +kernel
theorem dX8_init_172 : decode cX8_init 172 = .ok (.newarray .int, 2) := by decide +kernel
theorem dX8_init_174 : decode cX8_init 174 = .ok (.putfield 69, 3) := by decide +kernel
theorem dX8_init_177 : decode cX8_init 177 = .ok (.aload_n 0, 1) := by decide +kernel
theorem dX8_init_178 : decode cX8_init 178 = .ok (.sipush 160, 3) := by decide +kernel
theorem dX8_init_181 : decode cX8_init 181 = .ok (.newarray .int, 2) := by decide +kernel
theorem dX8_init_183 : decode cX8_init 183 = .ok (.putfield 72, 3) := by decide +kernel
theorem dX8_init_186 : decode cX8_init 186 = .ok (.aload_n 0, 1) := by decide +kernel
theorem dX8_init_187 : decode cX8_init 187 = .ok (.sipush 200, 3) := by decide +kernel
theorem dX8_init_190 : decode cX8_init 190 = .ok (.newarray .int, 2) := by decide +kernel
theorem dX8_init_192 : decode cX8_init 192 = .ok (.putfield 75, 3) := by decide +kernel
theorem dX8_init_195 : decode cX8_init 195 = .ok (.aload_n 0, 1) := by decide +kernel
theorem dX8_init_196 : decode cX8_init 196 = .ok (.sipush 200, 3) := by decide +kernel
theorem dX8_init_199 : decode cX8_init 199 = .ok (.newarray .int, 2) := by decide +kernel
theorem dX8_init_201 : decode cX8_init 201 = .ok (.putfield 78, 3) := by decide +kernel
theorem dX8_init_204 : decode cX8_init 204 = .ok (.aload_n 0, 1) := by decide +kernel
theorem dX8_init_205 : decode cX8_init 205 = .ok (.sipush 1600, 3) := by decide +kernel
theorem dX8_init_208 : decode cX8_init 208 = .ok (.newarray .int, 2) := by decide +kernel
theorem dX8_init_210 : decode cX8_init 210 = .ok (.putfield 81, 3) := by decide +kernel
theorem dX8_init_213 : decode cX8_init 213 = .ok (.aload_n 0, 1) := by decide +kernel
theorem dX8_init_214 : decode cX8_init 214 = .ok (.sipush 200, 3) := by decide +kernel
theorem dX8_init_217 : decode cX8_init 217 = .ok (.newarray .int, 2) := by decide +kernel
theorem dX8_init_219 : decode cX8_init 219 = .ok (.putfield 84, 3) := by decide +kernel
theorem dX8_init_222 : decode cX8_init 222 = .ok (.aload_n 0, 1) := by decide +kernel
theorem dX8_init_223 : decode cX8_init 223 = .ok (.sipush 200, 3) := by decide +kernel
theorem dX8_init_226 : decode cX8_init 226 = .ok (.newarray .int, 2) := by decide +kernel
theorem dX8_init_228 : decode cX8_init 228 = .ok (.putfield 87, 3) := by decide +kernel
theorem dX8_init_231 : decode cX8_init 231 = .ok (.aload_n 0, 1) := by decide +kernel
theorem dX8_init_232 : decode cX8_init 232 = .ok (.sipush 200, 3) := by decide +kernel
theorem dX8_init_235 : decode cX8_init 235 = .ok (.newarray .int, 2) := by decide +kernel
theorem dX8_init_237 : decode cX8_init 237 = .ok (.putfield 90, 3) := by decide +kernel
theorem dX8_init_240 : decode cX8_init 240 = .ok (.aload_n 0, 1) := by decide +kernel
theorem dX8_init_241 : decode cX8_init 241 = .ok (.sipush 200, 3) := by decide +kernel
theorem dX8_init_244 : decode cX8_init 244 = .ok (.newarray .int, 2) := by decide +kernel
theorem dX8_init_246 : decode cX8_init 246 = .ok (.putfield 93, 3) := by decide +kernel
theorem dX8_init_249 : decode cX8_init 249 = .ok (.aload_n 0, 1) := by decide +kernel
theorem dX8_init_250 : decode cX8_init 250 = .ok (.sipush 288, 3) := by decide +kernel
theorem dX8_init_253 : decode cX8_init 253 = .ok (.newarray .int, 2) := by decide +kernel
theorem dX8_init_255 : decode cX8_init 255 = .ok (.putfield 96, 3) := by decide +kernel
theorem dX8_init_258 : decode cX8_init 258 = .ok (.aload_n 0, 1) := by decide +kernel
theorem dX8_init_259 : decode cX8_init 259 = .ok (.sipush 288, 3) := by decide +kernel
theorem dX8_init_262 : decode cX8_init 262 = .ok (.newarray .int, 2) := by decide +kernel
theorem dX8_init_264 : decode cX8_init 264 = .ok (.putfield 99, 3) := by decide +kernel
theorem dX8_init_267 : decode cX8_init 267 = .ok (.aload_n 0, 1) := by decide +kernel
theorem dX8_init_268 : decode cX8_init 268 = .ok (.sipush 288, 3) := by decide +kernel
theorem dX8_init_271 : decode cX8_init 271 = .ok (.newarray .int, 2) := by decide +kernel
theorem dX8_init_273 : decode cX8_init 273 = .ok (.putfield 102, 3) := by decide +kernel
theorem dX8_init_276 : decode cX8_init 276 = .ok (.aload_n 0, 1) := by decide +kernel
theorem dX8_init_277 : decode cX8_init 277 = .ok (.ldc 105, 2) := by decide +kernel
theorem dX8_init_279 : decode cX8_init 279 = .ok (.newarray .boolean, 2) := by decide +kernel
theorem dX8_init_281 : decode cX8_init 281 = .ok (.putfield 106, 3) := by decide +kernel
theorem dX8_init_284 : decode cX8_init 284 = .ok (.aload_n 0, 1) := by decide +kernel
theorem dX8_init_285 : decode cX8_init 285 = .ok (.sipush 300, 3) := by decide +kernel
theorem dX8_init_288 : decode cX8_init 288 = .ok (.newarray .int, 2) := by decide +kernel
theorem dX8_init_290 : decode cX8_init 290 = .ok (.putfield 109, 3) := by decide +kernel
theorem dX8_init_293 : decode cX8_init 293 = .ok (.aload_n 0, 1) := by decide +kernel
theorem dX8_init_294 : decode cX8_init 294 = .ok (.sipush 300, 3) := by decide +kernel
theorem dX8_init_297 : decode cX8_init 297 = .ok (.newarray .int, 2) := by decide +kernel
theorem dX8_init_299 : decode cX8_init 299 = .ok (.putfield 112, 3) := by decide +kernel
theorem dX8_init_302 : decode cX8_init 302 = .ok (.aload_n 0, 1) := by decide +kernel
theorem dX8_init_303 : decode cX8_init 303 = .ok (.sipush 240, 3) := by decide +kernel
theorem dX8_init_306 : decode cX8_init 306 = .ok (.newarray .int, 2) := by decide +kernel
theorem dX8_init_308 : decode cX8_init 308 = .ok (.putfield 115, 3) := by decide +kernel
theorem dX8_init_311 : decode cX8_init 311 = .ok (.aload_n 0, 1) := by decide +kernel
theorem dX8_init_312 : decode cX8_init 312 = .ok (.bipush 30, 2) := by decide +kernel
theorem dX8_init_314 : decode cX8_init 314 = .ok (.newarray .int, 2) := by decide +kernel
theorem dX8_init_316 : decode cX8_init 316 = .ok (.putfield 118, 3) := by decide +kernel
theorem dX8_init_319 : decode cX8_init 319 = .ok (.aload_n 0, 1) := by decide +kernel
theorem dX8_init_320 : decode cX8_init 320 = .ok (.bipush 30, 2) := by decide +kernel
theorem dX8_init_322 : decode cX8_init 322 = .ok (.newarray .int, 2) := by decide +kernel
theorem dX8_init_324 : decode cX8_init 324 = .ok (.putfield 121, 3) := by decide +kernel
theorem dX8_init_327 : decode cX8_init 327 = .ok (.return_, 1) := by decide +kernel
theorem dX8_thrown_0 : decode cX8_thrown 0 = .ok (.aload_n 0, 1) := by decide +kernel
theorem dX8_thrown_1 : decode cX8_thrown 1 = .ok (.getfield 124, 3) := by decide +kernel
theorem dX8_thrown_4 : decode cX8_thrown 4 = .ok (.ireturn, 1) := by decide +kernel
theorem dX8_isFine_0 : decode cX8_isFine 0 = .ok (.aload_n 0, 1) := by decide +kernel
theorem dX8_isFine_1 : decode cX8_isFine 1 = .ok (.iload_n 1, 1) := by decide +kernel
theorem dX8_isFine_2 : decode cX8_isFine 2 = .ok (.putfield 124, 3) := by decide +kernel
theorem dX8_isFine_5 : decode cX8_isFine 5 = .ok (.iload_n 1, 1) := by decide +kernel
theorem dX8_isFine_6 : decode cX8_isFine 6 = .ok (.ifCond .ne 7, 3) := by decide +kernel
theorem dX8_isFine_9 : decode cX8_isFine 9 = .ok (.iconst 1, 1) := by decide +kernel
theorem dX8_isFine_10 : decode cX8_isFine 10 = .ok (.goto 4, 3) := by decide +kernel
theorem dX8_isFine_13 : decode cX8_isFine 13 = .ok (.iconst 0, 1) := by decide +kernel
theorem dX8_isFine_14 : decode cX8_isFine 14 = .ok (.ireturn, 1) := by decide +kernel
theorem dX8_isIn_0 : decode cX8_isIn 0 = .ok (.iload_n 0, 1) := by decide +kernel
theorem dX8_isIn_1 : decode cX8_isIn 1 = .ok (.iload_n 1, 1) := by decide +kernel
theorem dX8_isIn_2 : decode cX8_isIn 2 = .ok (.if_icmp .lt 12, 3) := by decide +kernel
theorem dX8_isIn_5 : decode cX8_isIn 5 = .ok (.iload_n 0, 1) := by decide +kernel
theorem dX8_isIn_6 : decode cX8_isIn 6 = .ok (.iload_n 2, 1) := by decide +kernel
theorem dX8_isIn_7 : decode cX8_isIn 7 = .ok (.if_icmp .gt 7, 3) := by decide +kernel
theorem dX8_isIn_10 : decode cX8_isIn 10 = .ok (.iconst 1, 1) := by decide +kernel
theorem dX8_isIn_11 : decode cX8_isIn 11 = .ok (.goto 4, 3) := by decide +kernel
theorem dX8_isIn_14 : decode cX8_isIn 14 = .ok (.iconst 0, 1) := by decide +kernel
theorem dX8_isIn_15 : decode cX8_isIn 15 = .ok (.ireturn, 1) := by decide +kernel
set_option maxRecDepth 20000 in
theorem ggX8_isMachine_X8_isIn : GoodIn wsX8_isMachine wsX8_isIn := goodIn_r _ [5] rfl (by decide +kernel)
set_option maxRecDepth 20000 in
theorem gX8_isMachine_X8_isIn : GoodIn wsX8_isMachine (va_wsS RX8 131 yX8_isIn wsX8_isIn) := goodIn_app (goodIn_of _ (by decide +kernel)) ggX8_isMachine_X8_isIn
theorem dX8_isMachine_0 : decode cX8_isMachine 0 = .ok (.iload_n 1, 1) := by decide +kernel
theorem dX8_isMachine_1 : decode cX8_isMachine 1 = .ok (.iconst 0, 1) := by decide +kernel
theorem dX8_isMachine_2 : decode cX8_isMachine 2 = .ok (.aload_n 0, 1) := by decide +kernel
theorem dX8_isMachine_3 : decode cX8_isMachine 3 = .ok (.getfield 128, 3) := by decide +kernel
theorem dX8_isMachine_6 : decode cX8_isMachine 6 = .ok (.iconst 1, 1) := by decide +kernel
theorem dX8_isMachine_7 : decode cX8_isMachine 7 = .ok (.isub, 1) := by decide +kernel
theorem dX8_isMachine_8 : decode cX8_isMachine 8 = .ok (.invokestatic 131, 3) := by decide +kernel
theorem dX8_isMachine_11 : decode cX8_isMachine 11 = .ok (.ireturn, 1) := by decide +kernel
set_option maxRecDepth 20000 in
theorem ggX8_type_X8_isIn : GoodIn wsX8_type wsX8_isIn := goodIn_r _ [6] rfl (by decide +kernel)
set_option maxRecDepth 20000 in
theorem gX8_type_X8_isIn : GoodIn wsX8_type (va_wsS RX8 131 yX8_isIn wsX8_isIn) := goodIn_app (goodIn_of _ (by decide +kernel)) ggX8_type_X8_isIn
set_option maxRecDepth 20000 in
theorem ggX8_type_X8_isFine : GoodIn wsX8_type wsX8_isFine := goodIn_r _ [10, 11, 12, 13, 14, 15, 16, 17, 18, 19, 20, 21, 22, 23, 24, 25, 26, 27, 28, 29, 30, 31, 32, 33, 34, 35, 36, 37, 38, 39, 40, 41, 42, 43, 44, 45, 46, 47, 48, 49, 50, 51, 52, 53, 54, 55, 56, 57, 58] rfl (by decide +kernel)
set_option maxRecDepth 20000 in
theorem gX8_type_X8_isFine : GoodIn wsX8_type (wsV RX8 138 RX8 yX8_isFine wsX8_isFine) := goodIn_app (goodIn_of _ (by decide +kernel)) ggX8_type_X8_isFine
theorem dX8_type_0 : decode cX8_type 0 = .ok (.aload_n 0, 1) := by decide +kernel
theorem dX8_type_1 : decode cX8_type 1 = .ok (.iload_n 1, 1) := by decide +kernel
theorem dX8_type_2 : decode cX8_type 2 = .ok (.iconst 0, 1) := by decide +kernel
theorem dX8_type_3 : decode cX8_type 3 = .ok (.bipush 7, 2) := by decide +kernel
theorem dX8_type_5 : decode cX8_type 5 = .ok (.invokestatic 131, 3) := by decide +kernel
theorem dX8_type_8 : decode cX8_type 8 = .ok (.ifCond .ne 7, 3) := by decide +kernel
theorem dX8_type_11 : decode cX8_type 11 = .ok (.iconst 1, 1) := by decide +kernel
theorem dX8_type_12 : decode cX8_type 12 = .ok (.goto 17, 3) := by decide +kernel
theorem dX8_type_15 : decode cX8_type 15 = .ok (.aload_n 0, 1) := by decide +kernel
theorem dX8_type_16 : decode cX8_type 16 = .ok (.getfield 135, 3) := by decide +kernel
theorem dX8_type_19 : decode cX8_type 19 = .ok (.bipush 8, 2) := by decide +kernel
theorem dX8_type_21 : decode cX8_type 21 = .ok (.if_icmp .ne 7, 3) := by decide +kernel
theorem dX8_type_24 : decode cX8_type 24 = .ok (.iconst 2, 1) := by decide +kernel
theorem dX8_type_25 : decode cX8_type 25 = .ok (.goto 4, 3) := by decide +kernel
theorem dX8_type_28 : decode cX8_type 28 = .ok (.iconst 0, 1) := by decide +kernel
theorem dX8_type_29 : decode cX8_type 29 = .ok (.invokevirtual 138, 3) := by decide +kernel
theorem dX8_type_32 : decode cX8_type 32 = .ok (.ifCond .ne 5, 3) := by decide +kernel
theorem dX8_type_35 : decode cX8_type 35 = .ok (.iconst 0, 1) := by decide +kernel
theorem dX8_type_36 : decode cX8_type 36 = .ok (.ireturn, 1) := by decide +kernel
theorem dX8_type_37 : decode cX8_type 37 = .ok (.aload_n 0, 1) := by decide +kernel
theorem dX8_type_38 : decode cX8_type 38 = .ok (.getfield 7, 3) := by decide +kernel
theorem dX8_type_41 : decode cX8_type 41 = .ok (.aload_n 0, 1) := by decide +kernel
theorem dX8_type_42 : decode cX8_type 42 = .ok (.getfield 135, 3) := by decide +kernel
theorem dX8_type_45 : decode cX8_type 45 = .ok (.iload_n 1, 1) := by decide +kernel
theorem dX8_type_46 : decode cX8_type 46 = .ok (.iastore, 1) := by decide +kernel
theorem dX8_type_47 : decode cX8_type 47 = .ok (.aload_n 0, 1) := by decide +kernel
theorem dX8_type_48 : decode cX8_type 48 = .ok (.dup, 1) := by decide +kernel
theorem dX8_type_49 : decode cX8_type 49 = .ok (.getfield 135, 3) := by decide +kernel
theorem dX8_type_52 : decode cX8_type 52 = .ok (.iconst 1, 1) := by decide +kernel
theorem dX8_type_53 : decode cX8_type 53 = .ok (.iadd, 1) := by decide +kernel
theorem dX8_type_54 : decode cX8_type 54 = .ok (.putfield 135, 3) := by decide +kernel
theorem dX8_type_57 : decode cX8_type 57 = .ok (.aload_n 0, 1) := by decide +kernel
theorem dX8_type_58 : decode cX8_type 58 = .ok (.getfield 135, 3) := by decide +kernel
theorem dX8_type_61 : decode cX8_type 61 = .ok (.ireturn, 1) := by decide +kernel
theorem dX8_clear_0 : decode cX8_clear 0 = .ok (.aload_n 0, 1) := by decide +kernel
theorem dX8_clear_1 : decode cX8_clear 1 = .ok (.iconst 0, 1) := by decide +kernel
theorem dX8_clear_2 : decode cX8_clear 2 = .ok (.putfield 124, 3) := by decide +kernel
theorem dX8_clear_5 : decode cX8_clear 5 = .ok (.aload_n 0, 1) := by decide +kernel
theorem dX8_clear_6 : decode cX8_clear 6 = .ok (.getfield 135, 3) := by decide +kernel
theorem dX8_clear_9 : decode cX8_clear 9 = .ok (.istore_n 1, 1) := by decide +kernel
theorem dX8_clear_10 : decode cX8_clear 10 = .ok (.aload_n 0, 1) := by decide +kernel
theorem dX8_clear_11 : decode cX8_clear 11 = .ok (.iconst 0, 1) := by decide +kernel
theorem dX8_clear_12 : decode cX8_clear 12 = .ok (.putfield 135, 3) := by decide +kernel
theorem dX8_clear_15 : decode cX8_clear 15 = .ok (.iload_n 1, 1) := by decide +kernel
theorem dX8_clear_16 : decode cX8_clear 16 = .ok (.ireturn, 1) := by decide +kernel
theorem dX8_begins_0 : decode cX8_begins 0 = .ok (.aload_n 0, 1) := by decide +kernel
theorem dX8_begins_1 : decode cX8_begins 1 = .ok (.iconst 0, 1) := by decide +kernel
theorem dX8_begins_2 : decode cX8_begins 2 = .ok (.putfield 142, 3) := by decide +kernel
theorem dX8_begins_5 : decode cX8_begins 5 = .ok (.iconst 0, 1) := by decide +kernel
theorem dX8_begins_6 : decode cX8_begins 6 = .ok (.istore_n 1, 1) := by decide +kernel
theorem dX8_begins_7 : decode cX8_begins 7 = .ok (.iload_n 1, 1) := by decide +kernel
theorem dX8_begins_8 : decode cX8_begins 8 = .ok (.sipush 1024, 3) := by decide +kernel
theorem dX8_begins_11 : decode cX8_begins 11 = .ok (.if_icmp .ge 16, 3) := by decide +kernel
theorem dX8_begins_14 : decode cX8_begins 14 = .ok (.aload_n 0, 1) := by decide +kernel
theorem dX8_begins_15 : decode cX8_begins 15 = .ok (.getfield 44, 3) := by decide +kernel
theorem dX8_begins_18 : decode cX8_begins 18 = .ok (.iload_n 1, 1) := by decide +kernel
theorem dX8_begins_19 : decode cX8_begins 19 = .ok (.iconst 0, 1) := by decide +kernel
theorem dX8_begins_20 : decode cX8_begins 20 = .ok (.bastore, 1) := by decide +kernel
theorem dX8_begins_21 : decode cX8_begins 21 = .ok (.iinc 1 1, 3) := by decide +kernel
theorem dX8_begins_24 : decode cX8_begins 24 = .ok (.goto (-17), 3) := by decide +kernel
theorem dX8_begins_27 : decode cX8_begins 27 = .ok (.return_, 1) := by decide +kernel
theorem dX8_adds_0 : decode cX8_adds 0 = .ok (.aload_n 0, 1) := by decide +kernel
theorem dX8_adds_1 : decode cX8_adds 1 = .ok (.getfield 38, 3) := by decide +kernel
theorem dX8_adds_4 : decode cX8_adds 4 = .ok (.aload_n 0, 1) := by decide +kernel
theorem dX8_adds_5 : decode cX8_adds 5 = .ok (.getfield 142, 3) := by decide +kernel
theorem dX8_adds_8 : decode cX8_adds 8 = .ok (.iload_n 1, 1) := by decide +kernel
theorem dX8_adds_9 : decode cX8_adds 9 = .ok (.bipush 18, 2) := by decide +kernel
theorem dX8_adds_11 : decode cX8_adds 11 = .ok (.ishl, 1) := by decide +kernel
theorem dX8_adds_12 : decode cX8_adds 12 = .ok (.iload_n 2, 1) := by decide +kernel
theorem dX8_adds_13 : decode cX8_adds 13 = .ok (.bipush 14, 2) := by decide +kernel
theorem dX8_adds_15 : decode cX8_adds 15 = .ok (.ishl, 1) := by decide +kernel
theorem dX8_adds_16 : decode cX8_adds 16 = .ok (.ior, 1) := by decide +kernel
theorem dX8_adds_17 : decode cX8_adds 17 = .ok (.iload_n 3, 1) := by decide +kernel
theorem dX8_adds_18 : decode cX8_adds 18 = .ok (.bipush 10, 2) := by decide +kernel
theorem dX8_adds_20 : decode cX8_adds 20 = .ok (.ishl, 1) := by decide +kernel
theorem dX8_adds_21 : decode cX8_adds 21 = .ok (.ior, 1) := by decide +kernel
theorem dX8_adds_22 : decode cX8_adds 22 = .ok (.iload 5, 2) := by decide +kernel
theorem dX8_adds_24 : decode cX8_adds 24 = .ok (.ior, 1) := by decide +kernel
theorem dX8_adds_25 : decode cX8_adds 25 = .ok (.iastore, 1) := by decide +kernel
theorem dX8_adds_26 : decode cX8_adds 26 = .ok (.aload_n 0, 1) := by decide +kernel
theorem dX8_adds_27 : decode cX8_adds 27 = .ok (.getfield 41, 3) := by decide +kernel
theorem dX8_adds_30 : decode cX8_adds 30 = .ok (.aload_n 0, 1) := by decide +kernel
theorem dX8_adds_31 : decode cX8_adds 31 = .ok (.getfield 142, 3) := by decide +kernel
theorem dX8_adds_34 : decode cX8_adds 34 = .ok (.iload 4, 2) := by decide +kernel
theorem dX8_adds_36 : decode cX8_adds 36 = .ok (.iastore, 1) := by decide +kernel
theorem dX8_adds_37 : decode cX8_adds 37 = .ok (.aload_n 0, 1) := by decide +kernel
theorem dX8_adds_38 : decode cX8_adds 38 = .ok (.dup, 1) := by decide +kernel
theorem dX8_adds_39 : decode cX8_adds 39 = .ok (.getfield 142, 3) := by decide +kernel
theorem dX8_adds_42 : decode cX8_adds 42 = .ok (.iconst 1, 1) := by decide +kernel
theorem dX8_adds_43 : decode cX8_adds 43 = .ok (.iadd, 1) := by decide +kernel
theorem dX8_adds_44 : decode cX8_adds 44 = .ok (.putfield 142, 3) := by decide +kernel
theorem dX8_adds_47 : decode cX8_adds 47 = .ok (.return_, 1) := by decide +kernel
theorem dX8_sourceOf_0 : decode cX8_sourceOf 0 = .ok (.iload_n 0, 1) := by decide +kernel
theorem dX8_sourceOf_1 : decode cX8_sourceOf 1 = .ok (.bipush 18, 2) := by decide +kernel
theorem dX8_sourceOf_3 : decode cX8_sourceOf 3 = .ok (.ishr, 1) := by decide +kernel
theorem dX8_sourceOf_4 : decode cX8_sourceOf 4 = .ok (.ireturn, 1) := by decide +kernel
theorem dX8_targetOf_0 : decode cX8_targetOf 0 = .ok (.iload_n 0, 1) := by decide +kernel
theorem dX8_targetOf_1 : decode cX8_targetOf 1 = .ok (.sipush 1023, 3) := by decide +kernel
theorem dX8_targetOf_4 : decode cX8_targetOf 4 = .ok (.iand, 1) := by decide +kernel
theorem dX8_targetOf_5 : decode cX8_targetOf 5 = .ok (.ireturn, 1) := by decide +kernel
set_option maxRecDepth 20000 in
theorem ggX8_reaches_X8_sourceOf : GoodIn wsX8_reaches wsX8_sourceOf := goodIn_r _ [9] rfl (by decide +kernel)
set_option maxRecDepth 20000 in
theorem gX8_reaches_X8_sourceOf : GoodIn wsX8_reaches (va_wsS RX8 145 yX8_sourceOf wsX8_sourceOf) := goodIn_app (goodIn_of _ (by decide +kernel)) ggX8_reaches_X8_sourceOf
set_option maxRecDepth 20000 in
theorem ggX8_reaches_X8_targetOf : GoodIn wsX8_reaches wsX8_targetOf := goodIn_r _ [12] rfl (by decide +kernel)
set_option maxRecDepth 20000 in
theorem gX8_reaches_X8_targetOf : GoodIn wsX8_reaches (va_wsS RX8 149 yX8_targetOf wsX8_targetOf) := goodIn_app (goodIn_of _ (by decide +kernel)) ggX8_reaches_X8_targetOf
theorem dX8_reaches_0 : decode cX8_reaches 0 = .ok (.iconst 0, 1) := by decide +kernel
theorem dX8_reaches_1 : decode cX8_reaches 1 = .ok (.istore_n 2, 1) := by decide +kernel
theorem dX8_reaches_2 : decode cX8_reaches 2 = .ok (.iload_n 2, 1) := by decide +kernel
theorem dX8_reaches_3 : decode cX8_reaches 3 = .ok (.sipush 1024, 3) := by decide +kernel
theorem dX8_reaches_6 : decode cX8_reaches 6 = .ok (.if_icmp .ge 37, 3) := by decide +kernel
theorem dX8_reaches_9 : decode cX8_reaches 9 = .ok (.aload_n 0, 1) := by decide +kernel
theorem dX8_reaches_10 : decode cX8_reaches 10 = .ok (.getfield 48, 3) := by decide +kernel
theorem dX8_reaches_13 : decode cX8_reaches 13 = .ok (.iload_n 2, 1) := by decide +kernel
theorem dX8_reaches_14 : decode cX8_reaches 14 = .ok (.iload_n 2, 1) := by decide +kernel
theorem dX8_reaches_15 : decode cX8_reaches 15 = .ok (.iload_n 1, 1) := by decide +kernel
theorem dX8_reaches_16 : decode cX8_reaches 16 = .ok (.if_icmp .ne 7, 3) := by decide +kernel
theorem dX8_reaches_19 : decode cX8_reaches 19 = .ok (.iconst 1, 1) := by decide +kernel
theorem dX8_reaches_20 : decode cX8_reaches 20 = .ok (.goto 4, 3) := by decide +kernel
theorem dX8_reaches_23 : decode cX8_reaches 23 = .ok (.iconst 0, 1) := by decide +kernel
theorem dX8_reaches_24 : decode cX8_reaches 24 = .ok (.bastore, 1) := by decide +kernel
theorem dX8_reaches_25 : decode cX8_reaches 25 = .ok (.aload_n 0, 1) := by decide +kernel
theorem dX8_reaches_26 : decode cX8_reaches 26 = .ok (.getfield 51, 3) := by decide +kernel
theorem dX8_reaches_29 : decode cX8_reaches 29 = .ok (.iload_n 2, 1) := by decide +kernel
theorem dX8_reaches_30 : decode cX8_reaches 30 = .ok (.aload_n 0, 1) := by decide +kernel
theorem dX8_reaches_31 : decode cX8_reaches 31 = .ok (.getfield 44, 3) := by decide +kernel
theorem dX8_reaches_34 : decode cX8_reaches 34 = .ok (.iload_n 2, 1) := by decide +kernel
theorem dX8_reaches_35 : decode cX8_reaches 35 = .ok (.baload, 1) := by decide +kernel
theorem dX8_reaches_36 : decode cX8_reaches 36 = .ok (.bastore, 1) := by decide +kernel
theorem dX8_reaches_37 : decode cX8_reaches 37 = .ok (.iinc 2 1, 3) := by decide +kernel
theorem dX8_reaches_40 : decode cX8_reaches 40 = .ok (.goto (-38), 3) := by decide +kernel
theorem dX8_reaches_43 : decode cX8_reaches 43 = .ok (.iconst 1, 1) := by decide +kernel
theorem dX8_reaches_44 : decode cX8_reaches 44 = .ok (.istore_n 2, 1) := by decide +kernel
theorem dX8_reaches_45 : decode cX8_reaches 45 = .ok (.iload_n 2, 1) := by decide +kernel
theorem dX8_reaches_46 : decode cX8_reaches 46 = .ok (.ifCond .eq 172, 3) := by decide +kernel
theorem dX8_reaches_49 : decode cX8_reaches 49 = .ok (.iconst 0, 1) := by decide +kernel
theorem dX8_reaches_50 : decode cX8_reaches 50 = .ok (.istore_n 2, 1) := by decide +kernel
theorem dX8_reaches_51 : decode cX8_reaches 51 = .ok (.iconst 0, 1) := by decide +kernel
theorem dX8_reaches_52 : decode cX8_reaches 52 = .ok (.istore_n 3, 1) := by decide +kernel
theorem dX8_reaches_53 : decode cX8_reaches 53 = .ok (.iload_n 3, 1) := by decide +kernel
theorem dX8_reaches_54 : decode cX8_reaches 54 = .ok (.aload_n 0, 1) := by decide +kernel
theorem dX8_reaches_55 : decode cX8_reaches 55 = .ok (.getfield 142, 3) := by decide +kernel
theorem dX8_reaches_58 : decode cX8_reaches 58 = .ok (.if_icmp .ge 157, 3) := by decide +kernel
theorem dX8_reaches_61 : decode cX8_reaches 61 = .ok (.aload_n 0, 1) := by decide +kernel
theorem dX8_reaches_62 : decode cX8_reaches 62 = .ok (.getfield 38, 3) := by decide +kernel
theorem dX8_reaches_65 : decode cX8_reaches 65 = .ok (.iload_n 3, 1) := by decide +kernel
theorem dX8_reaches_66 : decode cX8_reaches 66 = .ok (.iaload, 1) := by decide +kernel
theorem dX8_reaches_67 : decode cX8_reaches 67 = .ok (.invokestatic 145, 3) := by decide +kernel
theorem dX8_reaches_70 : decode cX8_reaches 70 = .ok (.istore 4, 2) := by decide +kernel
theorem dX8_reaches_72 : decode cX8_reaches 72 = .ok (.aload_n 0, 1) := by decide +kernel
theorem dX8_reaches_73 : decode cX8_reaches 73 = .ok (.getfield 38, 3) := by decide +kernel
theorem dX8_reaches_76 : decode cX8_reaches 76 = .ok (.iload_n 3, 1) := by decide +kernel
theorem dX8_reaches_77 : decode cX8_reaches 77 = .ok (.iaload, 1) := by decide +kernel
theorem dX8_reaches_78 : decode cX8_reaches 78 = .ok (.invokestatic 149, 3) := by decide +kernel
theorem dX8_reaches_81 : decode cX8_reaches 81 = .ok (.istore 5, 2) := by decide +kernel
theorem dX8_reaches_83 : decode cX8_reaches 83 = .ok (.aload_n 0, 1) := by decide +kernel
theorem dX8_reaches_84 : decode cX8_reaches 84 = .ok (.getfield 48, 3) := by decide +kernel
theorem dX8_reaches_87 : decode cX8_reaches 87 = .ok (.iload 4, 2) := by decide +kernel
theorem dX8_reaches_89 : decode cX8_reaches 89 = .ok (.baload, 1) := by decide +kernel
theorem dX8_reaches_90 : decode cX8_reaches 90 = .ok (.ifCond .eq 13, 3) := by decide +kernel
theorem dX8_reaches_93 : decode cX8_reaches 93 = .ok (.aload_n 0, 1) := by decide +kernel
theorem dX8_reaches_94 : decode cX8_reaches 94 = .ok (.getfield 48, 3) := by decide +kernel
theorem dX8_reaches_97 : decode cX8_reaches 97 = .ok (.iload 5, 2) := by decide +kernel
theorem dX8_reaches_99 : decode cX8_reaches 99 = .ok (.baload, 1) := by decide +kernel
theorem dX8_reaches_100 : decode cX8_reaches 100 = .ok (.ifCond .eq 23, 3) := by decide +kernel
theorem dX8_reaches_103 : decode cX8_reaches 103 = .ok (.aload_n 0, 1) := by decide +kernel
theorem dX8_reaches_104 : decode cX8_reaches 104 = .ok (.getfield 51, 3) := by decide +kernel
theorem dX8_reaches_107 : decode cX8_reaches 107 = .ok (.iload 5, 2) := by decide +kernel
theorem dX8_reaches_109 : decode cX8_reaches 109 = .ok (.baload, 1) := by decide +kernel
theorem dX8_reaches_110 : decode cX8_reaches 110 = .ok (.ifCond .eq 17, 3) := by decide +kernel
theorem dX8_reaches_113 : decode cX8_reaches 113 = .ok (.aload_n 0, 1) := by decide +kernel
theorem dX8_reaches_114 : decode cX8_reaches 114 = .ok (.getfield 51, 3) := by decide +kernel
theorem dX8_reaches_117 : decode cX8_reaches 117 = .ok (.iload 4, 2) := by decide +kernel
theorem dX8_reaches_119 : decode cX8_reaches 119 = .ok (.baload, 1) := by decide +kernel
theorem dX8_reaches_120 : decode cX8_reaches 120 = .ok (.ifCond .ne 7, 3) := by decide +kernel
theorem dX8_reaches_123 : decode cX8_reaches 123 = .ok (.iconst 1, 1) := by decide +kernel
theorem dX8_reaches_124 : decode cX8_reaches 124 = .ok (.goto 4, 3) := by decide +kernel
theorem dX8_reaches_127 : decode cX8_reaches 127 = .ok (.iconst 0, 1) := by decide +kernel
theorem dX8_reaches_128 : decode cX8_reaches 128 = .ok (.istore 6, 2) := by decide +kernel
theorem dX8_reaches_130 : decode cX8_reaches 130 = .ok (.aload_n 0, 1) := by decide +kernel
theorem dX8_reaches_131 : decode cX8_reaches 131 = .ok (.getfield 48, 3) := by decide +kernel
theorem dX8_reaches_134 : decode cX8_reaches 134 = .ok (.iload 5, 2) := by decide +kernel
theorem dX8_reaches_136 : decode cX8_reaches 136 = .ok (.aload_n 0, 1) := by decide +kernel
theorem dX8_reaches_137 : decode cX8_reaches 137 = .ok (.getfield 48, 3) := by decide +kernel
theorem dX8_reaches_140 : decode cX8_reaches 140 = .ok (.iload 5, 2) := by decide +kernel
theorem dX8_reaches_142 : decode cX8_reaches 142 = .ok (.baload, 1) := by decide +kernel
theorem dX8_reaches_143 : decode cX8_reaches 143 = .ok (.ifCond .ne 13, 3) := by decide +kernel
theorem dX8_reaches_146 : decode cX8_reaches 146 = .ok (.aload_n 0, 1) := by decide +kernel
theorem dX8_reaches_147 : decode cX8_reaches 147 = .ok (.getfield 48, 3) := by decide +kernel
theorem dX8_reaches_150 : decode cX8_reaches 150 = .ok (.iload 4, 2) := by decide +kernel
theorem dX8_reaches_152 : decode cX8_reaches 152 = .ok (.baload, 1) := by decide +kernel
theorem dX8_reaches_153 : decode cX8_reaches 153 = .ok (.ifCond .eq 7, 3) := by decide +kernel
theorem dX8_reaches_156 : decode cX8_reaches 156 = .ok (.iconst 1, 1) := by decide +kernel
theorem dX8_reaches_157 : decode cX8_reaches 157 = .ok (.goto 4, 3) := by decide +kernel
theorem dX8_reaches_160 : decode cX8_reaches 160 = .ok (.iconst 0, 1) := by decide +kernel
theorem dX8_reaches_161 : decode cX8_reaches 161 = .ok (.bastore, 1) := by decide +kernel
theorem dX8_reaches_162 : decode cX8_reaches 162 = .ok (.aload_n 0, 1) := by decide +kernel
theorem dX8_reaches_163 : decode cX8_reaches 163 = .ok (.getfield 51, 3) := by decide +kernel
theorem dX8_reaches_166 : decode cX8_reaches 166 = .ok (.iload 4, 2) := by decide +kernel
theorem dX8_reaches_168 : decode cX8_reaches 168 = .ok (.aload_n 0, 1) := by decide +kernel
theorem dX8_reaches_169 : decode cX8_reaches 169 = .ok (.getfield 51, 3) := by decide +kernel
theorem dX8_reaches_172 : decode cX8_reaches 172 = .ok (.iload 4, 2) := by decide +kernel
theorem dX8_reaches_174 : decode cX8_reaches 174 = .ok (.baload, 1) := by decide +kernel
theorem dX8_reaches_175 : decode cX8_reaches 175 = .ok (.ifCond .ne 13, 3) := by decide +kernel
theorem dX8_reaches_178 : decode cX8_reaches 178 = .ok (.aload_n 0, 1) := by decide +kernel
theorem dX8_reaches_179 : decode cX8_reaches 179 = .ok (.getfield 51, 3) := by decide +kernel
theorem dX8_reaches_182 : decode cX8_reaches 182 = .ok (.iload 5, 2) := by decide +kernel
theorem dX8_reaches_184 : decode cX8_reaches 184 = .ok (.baload, 1) := by decide +kernel
theorem dX8_reaches_185 : decode cX8_reaches 185 = .ok (.ifCond .eq 7, 3) := by decide +kernel
theorem dX8_reaches_188 : decode cX8_reaches 188 = .ok (.iconst 1, 1) := by decide +kernel
theorem dX8_reaches_189 : decode cX8_reaches 189 = .ok (.goto 4, 3) := by decide +kernel
theorem dX8_reaches_192 : decode cX8_reaches 192 = .ok (.iconst 0, 1) := by decide +kernel
theorem dX8_reaches_193 : decode cX8_reaches 193 = .ok (.bastore, 1) := by decide +kernel
theorem dX8_reaches_194 : decode cX8_reaches 194 = .ok (.iload_n 2, 1) := by decide +kernel
theorem dX8_reaches_195 : decode cX8_reaches 195 = .ok (.ifCond .ne 8, 3) := by decide +kernel
theorem dX8_reaches_198 : decode cX8_reaches 198 = .ok (.iload 6, 2) := by decide +kernel
theorem dX8_reaches_200 : decode cX8_reaches 200 = .ok (.ifCond .eq 7, 3) := by decide +kernel
theorem dX8_reaches_203 : decode cX8_reaches 203 = .ok (.iconst 1, 1) := by decide +kernel
theorem dX8_reaches_204 : decode cX8_reaches 204 = .ok (.goto 4, 3) := by decide +kernel
theorem dX8_reaches_207 : decode cX8_reaches 207 = .ok (.iconst 0, 1) := by decide +kernel
theorem dX8_reaches_208 : decode cX8_reaches 208 = .ok (.istore_n 2, 1) := by decide +kernel
theorem dX8_reaches_209 : decode cX8_reaches 209 = .ok (.iinc 3 1, 3) := by decide +kernel
theorem dX8_reaches_212 : decode cX8_reaches 212 = .ok (.goto (-159), 3) := by decide +kernel
theorem dX8_reaches_215 : decode cX8_reaches 215 = .ok (.goto (-170), 3) := by decide +kernel
theorem dX8_reaches_218 : decode cX8_reaches 218 = .ok (.return_, 1) := by decide +kernel
set_option maxRecDepth 20000 in
theorem ggX8_nextArc_X8_targetOf : GoodIn wsX8_nextArc wsX8_targetOf := goodIn_r _ [9] rfl (by decide +kernel)
set_option maxRecDepth 20000 in
theorem gX8_nextArc_X8_targetOf : GoodIn wsX8_nextArc (va_wsS RX8 149 yX8_targetOf wsX8_targetOf) := goodIn_app (goodIn_of _ (by decide +kernel)) ggX8_nextArc_X8_targetOf
set_option maxRecDepth 20000 in
theorem ggX8_nextArc_X8_sourceOf : GoodIn wsX8_nextArc wsX8_sourceOf := goodIn_r _ [12] rfl (by decide +kernel)
set_option maxRecDepth 20000 in
theorem gX8_nextArc_X8_sourceOf : GoodIn wsX8_nextArc (va_wsS RX8 145 yX8_sourceOf wsX8_sourceOf) := goodIn_app (goodIn_of _ (by decide +kernel)) ggX8_nextArc_X8_sourceOf
theorem dX8_nextArc_0 : decode cX8_nextArc 0 = .ok (.iconst (-1), 1) := by decide +kernel
theorem dX8_nextArc_1 : decode cX8_nextArc 1 = .ok (.istore_n 3, 1) := by decide +kernel
theorem dX8_nextArc_2 : decode cX8_nextArc 2 = .ok (.iconst 0, 1) := by decide +kernel
theorem dX8_nextArc_3 : decode cX8_nextArc 3 = .ok (.istore 4, 2) := by decide +kernel
theorem dX8_nextArc_5 : decode cX8_nextArc 5 = .ok (.iload 4, 2) := by decide +kernel
theorem dX8_nextArc_7 : decode cX8_nextArc 7 = .ok (.aload_n 0, 1) := by decide +kernel
theorem dX8_nextArc_8 : decode cX8_nextArc 8 = .ok (.getfield 142, 3) := by decide +kernel
theorem dX8_nextArc_11 : decode cX8_nextArc 11 = .ok (.if_icmp .ge 138, 3) := by decide +kernel
theorem dX8_nextArc_14 : decode cX8_nextArc 14 = .ok (.aload_n 0, 1) := by decide +kernel
theorem dX8_nextArc_15 : decode cX8_nextArc 15 = .ok (.getfield 38, 3) := by decide +kernel
theorem dX8_nextArc_18 : decode cX8_nextArc 18 = .ok (.iload 4, 2) := by decide +kernel
theorem dX8_nextArc_20 : decode cX8_nextArc 20 = .ok (.iaload, 1) := by decide +kernel
theorem dX8_nextArc_21 : decode cX8_nextArc 21 = .ok (.invokestatic 149, 3) := by decide +kernel
theorem dX8_nextArc_24 : decode cX8_nextArc 24 = .ok (.istore 5, 2) := by decide +kernel
theorem dX8_nextArc_26 : decode cX8_nextArc 26 = .ok (.aload_n 0, 1) := by decide +kernel
theorem dX8_nextArc_27 : decode cX8_nextArc 27 = .ok (.getfield 38, 3) := by decide +kernel
theorem dX8_nextArc_30 : decode cX8_nextArc 30 = .ok (.iload 4, 2) := by decide +kernel
theorem dX8_nextArc_32 : decode cX8_nextArc 32 = .ok (.iaload, 1) := by decide +kernel
theorem dX8_nextArc_33 : decode cX8_nextArc 33 = .ok (.invokestatic 145, 3) := by decide +kernel
theorem dX8_nextArc_36 : decode cX8_nextArc 36 = .ok (.iload_n 1, 1) := by decide +kernel
theorem dX8_nextArc_37 : decode cX8_nextArc 37 = .ok (.if_icmp .ne 38, 3) := by decide +kernel
theorem dX8_nextArc_40 : decode cX8_nextArc 40 = .ok (.aload_n 0, 1) := by decide +kernel
theorem dX8_nextArc_41 : decode cX8_nextArc 41 = .ok (.getfield 38, 3) := by decide +kernel
theorem dX8_nextArc_44 : decode cX8_nextArc 44 = .ok (.iload 4, 2) := by decide +kernel
theorem dX8_nextArc_46 : decode cX8_nextArc 46 = .ok (.iaload, 1) := by decide +kernel
theorem dX8_nextArc_47 : decode cX8_nextArc 47 = .ok (.iload_n 2, 1) := by decide +kernel
theorem dX8_nextArc_48 : decode cX8_nextArc 48 = .ok (.if_icmp .le 27, 3) := by decide +kernel
theorem dX8_nextArc_51 : decode cX8_nextArc 51 = .ok (.aload_n 0, 1) := by decide +kernel
theorem dX8_nextArc_52 : decode cX8_nextArc 52 = .ok (.getfield 48, 3) := by decide +kernel
theorem dX8_nextArc_55 : decode cX8_nextArc 55 = .ok (.iload 5, 2) := by decide +kernel
theorem dX8_nextArc_57 : decode cX8_nextArc 57 = .ok (.baload, 1) := by decide +kernel
theorem dX8_nextArc_58 : decode cX8_nextArc 58 = .ok (.ifCond .eq 17, 3) := by decide +kernel
theorem dX8_nextArc_61 : decode cX8_nextArc 61 = .ok (.aload_n 0, 1) := by decide +kernel
theorem dX8_nextArc_62 : decode cX8_nextArc 62 = .ok (.getfield 51, 3) := by decide +kernel
theorem dX8_nextArc_65 : decode cX8_nextArc 65 = .ok (.iload 5, 2) := by decide +kernel
theorem dX8_nextArc_67 : decode cX8_nextArc 67 = .ok (.baload, 1) := by decide +kernel
theorem dX8_nextArc_68 : decode cX8_nextArc 68 = .ok (.ifCond .eq 7, 3) := by decide +kernel
theorem dX8_nextArc_71 : decode cX8_nextArc 71 = .ok (.iconst 1, 1) := by decide +kernel
theorem dX8_nextArc_72 : decode cX8_nextArc 72 = .ok (.goto 4, 3) := by decide +kernel
theorem dX8_nextArc_75 : decode cX8_nextArc 75 = .ok (.iconst 0, 1) := by decide +kernel
theorem dX8_nextArc_76 : decode cX8_nextArc 76 = .ok (.istore 6, 2) := by decide +kernel
theorem dX8_nextArc_78 : decode cX8_nextArc 78 = .ok (.iload 6, 2) := by decide +kernel
theorem dX8_nextArc_80 : decode cX8_nextArc 80 = .ok (.ifCond .eq 61, 3) := by decide +kernel
theorem dX8_nextArc_83 : decode cX8_nextArc 83 = .ok (.iload_n 3, 1) := by decide +kernel
theorem dX8_nextArc_84 : decode cX8_nextArc 84 = .ok (.iconst (-1), 1) := by decide +kernel
theorem dX8_nextArc_85 : decode cX8_nextArc 85 = .ok (.if_icmp .eq 51, 3) := by decide +kernel
theorem dX8_nextArc_88 : decode cX8_nextArc 88 = .ok (.aload_n 0, 1) := by decide +kernel
theorem dX8_nextArc_89 : decode cX8_nextArc 89 = .ok (.getfield 38, 3) := by decide +kernel
theorem dX8_nextArc_92 : decode cX8_nextArc 92 = .ok (.iload 4, 2) := by decide +kernel
theorem dX8_nextArc_94 : decode cX8_nextArc 94 = .ok (.iaload, 1) := by decide +kernel
theorem dX8_nextArc_95 : decode cX8_nextArc 95 = .ok (.aload_n 0, 1) := by decide +kernel
theorem dX8_nextArc_96 : decode cX8_nextArc 96 = .ok (.getfield 38, 3) := by decide +kernel
theorem dX8_nextArc_99 : decode cX8_nextArc 99 = .ok (.iload_n 3, 1) := by decide +kernel
theorem dX8_nextArc_100 : decode cX8_nextArc 100 = .ok (.iaload, 1) := by decide +kernel
theorem dX8_nextArc_101 : decode cX8_nextArc 101 = .ok (.if_icmp .lt 35, 3) := by decide +kernel
theorem dX8_nextArc_104 : decode cX8_nextArc 104 = .ok (.aload_n 0, 1) := by decide +kernel
theorem dX8_nextArc_105 : decode cX8_nextArc 105 = .ok (.getfield 38, 3) := by decide +kernel
theorem dX8_nextArc_108 : decode cX8_nextArc 108 = .ok (.iload 4, 2) := by decide +kernel
theorem dX8_nextArc_110 : decode cX8_nextArc 110 = .ok (.iaload, 1) := by decide +kernel
theorem dX8_nextArc_111 : decode cX8_nextArc 111 = .ok (.aload_n 0, 1) := by decide +kernel
theorem dX8_nextArc_112 : decode cX8_nextArc 112 = .ok (.getfield 38, 3) := by decide +kernel
theorem dX8_nextArc_115 : decode cX8_nextArc 115 = .ok (.iload_n 3, 1) := by decide +kernel
theorem dX8_nextArc_116 : decode cX8_nextArc 116 = .ok (.iaload, 1) := by decide +kernel
theorem dX8_nextArc_117 : decode cX8_nextArc 117 = .ok (.if_icmp .ne 24, 3) := by decide +kernel
theorem dX8_nextArc_120 : decode cX8_nextArc 120 = .ok (.aload_n 0, 1) := by decide +kernel
theorem dX8_nextArc_121 : decode cX8_nextArc 121 = .ok (.getfield 41, 3) := by decide +kernel
theorem dX8_nextArc_124 : decode cX8_nextArc 124 = .ok (.iload 4, 2) := by decide +kernel
theorem dX8_nextArc_126 : decode cX8_nextArc 126 = .ok (.iaload, 1) := by decide +kernel
theorem dX8_nextArc_127 : decode cX8_nextArc 127 = .ok (.aload_n 0, 1) := by decide +kernel
theorem dX8_nextArc_128 : decode cX8_nextArc 128 = .ok (.getfield 41, 3) := by decide +kernel
theorem dX8_nextArc_131 : decode cX8_nextArc 131 = .ok (.iload_n 3, 1) := by decide +kernel
theorem dX8_nextArc_132 : decode cX8_nextArc 132 = .ok (.iaload, 1) := by decide +kernel
theorem dX8_nextArc_133 : decode cX8_nextArc 133 = .ok (.if_icmp .ge 8, 3) := by decide +kernel
theorem dX8_nextArc_136 : decode cX8_nextArc 136 = .ok (.iload 4, 2) := by decide +kernel
theorem dX8_nextArc_138 : decode cX8_nextArc 138 = .ok (.goto 4, 3) := by decide +kernel
theorem dX8_nextArc_141 : decode cX8_nextArc 141 = .ok (.iload_n 3, 1) := by decide +kernel
theorem dX8_nextArc_142 : decode cX8_nextArc 142 = .ok (.istore_n 3, 1) := by decide +kernel
theorem dX8_nextArc_143 : decode cX8_nextArc 143 = .ok (.iinc 4 1, 3) := by decide +kernel
theorem dX8_nextArc_146 : decode cX8_nextArc 146 = .ok (.goto (-141), 3) := by decide +kernel
theorem dX8_nextArc_149 : decode cX8_nextArc 149 = .ok (.iload_n 3, 1) := by decide +kernel
theorem dX8_nextArc_150 : decode cX8_nextArc 150 = .ok (.ireturn, 1) := by decide +kernel
theorem dX8_finds_0 : decode cX8_finds 0 = .ok (.aload_n 0, 1) := by decide +kernel
theorem dX8_finds_1 : decode cX8_finds 1 = .ok (.getfield 54, 3) := by decide +kernel
theorem dX8_finds_4 : decode cX8_finds 4 = .ok (.iload_n 1, 1) := by decide +kernel
theorem dX8_finds_5 : decode cX8_finds 5 = .ok (.iaload, 1) := by decide +kernel
theorem dX8_finds_6 : decode cX8_finds 6 = .ok (.iconst (-1), 1) := by decide +kernel
theorem dX8_finds_7 : decode cX8_finds 7 = .ok (.if_icmp .ne 42, 3) := by decide +kernel
theorem dX8_finds_10 : decode cX8_finds 10 = .ok (.aload_n 0, 1) := by decide +kernel
theorem dX8_finds_11 : decode cX8_finds 11 = .ok (.getfield 54, 3) := by decide +kernel
theorem dX8_finds_14 : decode cX8_finds 14 = .ok (.iload_n 1, 1) := by decide +kernel
theorem dX8_finds_15 : decode cX8_finds 15 = .ok (.aload_n 0, 1) := by decide +kernel
theorem dX8_finds_16 : decode cX8_finds 16 = .ok (.getfield 152, 3) := by decide +kernel
theorem dX8_finds_19 : decode cX8_finds 19 = .ok (.iastore, 1) := by decide +kernel
theorem dX8_finds_20 : decode cX8_finds 20 = .ok (.aload_n 0, 1) := by decide +kernel
theorem dX8_finds_21 : decode cX8_finds 21 = .ok (.getfield 152, 3) := by decide +kernel
theorem dX8_finds_24 : decode cX8_finds 24 = .ok (.bipush 32, 2) := by decide +kernel
theorem dX8_finds_26 : decode cX8_finds 26 = .ok (.if_icmp .gt 13, 3) := by decide +kernel
theorem dX8_finds_29 : decode cX8_finds 29 = .ok (.aload_n 0, 1) := by decide +kernel
theorem dX8_finds_30 : decode cX8_finds 30 = .ok (.getfield 57, 3) := by decide +kernel
theorem dX8_finds_33 : decode cX8_finds 33 = .ok (.aload_n 0, 1) := by decide +kernel
theorem dX8_finds_34 : decode cX8_finds 34 = .ok (.getfield 152, 3) := by decide +kernel
theorem dX8_finds_37 : decode cX8_finds 37 = .ok (.iload_n 1, 1) := by decide +kernel
theorem dX8_finds_38 : decode cX8_finds 38 = .ok (.iastore, 1) := by decide +kernel
theorem dX8_finds_39 : decode cX8_finds 39 = .ok (.aload_n 0, 1) := by decide +kernel
theorem dX8_finds_40 : decode cX8_finds 40 = .ok (.dup, 1) := by decide +kernel
theorem dX8_finds_41 : decode cX8_finds 41 = .ok (.getfield 152, 3) := by decide +kernel
theorem dX8_finds_44 : decode cX8_finds 44 = .ok (.iconst 1, 1) := by decide +kernel
theorem dX8_finds_45 : decode cX8_finds 45 = .ok (.iadd, 1) := by decide +kernel
theorem dX8_finds_46 : decode cX8_finds 46 = .ok (.putfield 152, 3) := by decide +kernel
theorem dX8_finds_49 : decode cX8_finds 49 = .ok (.return_, 1) := by decide +kernel
set_option maxRecDepth 20000 in
theorem ggX8_trims_X8_reaches : GoodIn wsX8_trims wsX8_reaches := goodIn_r _ [19, 20, 4, 14, 21, 6, 22, 23, 18, 24, 25, 26, 27, 36, 37, 38, 39, 40, 41, 42, 43, 44, 45, 46, 47, 48, 49, 50, 51, 52, 53, 54, 55, 56, 57, 58, 59, 60, 61, 62, 63, 64, 65, 66, 67, 68, 69, 70, 71, 72, 73, 74, 75, 76, 77, 78, 79, 80, 81, 82] rfl (by decide +kernel)
set_option maxRecDepth 20000 in
theorem gX8_trims_X8_reaches : GoodIn wsX8_trims (wsV RX8 155 RX8 yX8_reaches wsX8_reaches) := goodIn_app (goodIn_of _ (by decide +kernel)) ggX8_trims_X8_reaches
set_option maxRecDepth 20000 in
theorem ggX8_trims_X8_finds : GoodIn wsX8_trims wsX8_finds := goodIn_r _ [31, 1, 2, 5, 36, 37, 38, 39, 40, 41, 42, 43, 44, 45, 46, 47, 48, 49, 50, 51, 52, 53, 54, 55, 56, 57, 58, 59, 60, 61, 62, 63, 64, 65, 66, 67, 68, 69, 70, 71, 72, 73, 74, 75, 76, 77, 78, 79, 80, 81, 82] rfl (by decide +kernel)
set_option maxRecDepth 20000 in
theorem gX8_trims_X8_finds : GoodIn wsX8_trims (wsV RX8 162 RX8 yX8_finds wsX8_finds) := goodIn_app (goodIn_of _ (by decide +kernel)) ggX8_trims_X8_finds
set_option maxRecDepth 20000 in
theorem ggX8_trims_X8_nextArc : GoodIn wsX8_trims wsX8_nextArc := goodIn_r _ [35, 21, 6, 20, 4, 11, 25, 26, 18, 27, 22, 23, 24, 36, 37, 38, 39, 40, 41, 42, 43, 44, 45, 46, 47, 48, 49, 50, 51, 52, 53, 54, 55, 56, 57, 58, 59, 60, 61, 62, 63, 64, 65, 66, 67, 68, 69, 70, 71, 72, 73, 74, 75, 76, 77, 78, 79, 80, 81, 82] rfl (by decide +kernel)
set_option maxRecDepth 20000 in
theorem gX8_trims_X8_nextArc : GoodIn wsX8_trims (wsV RX8 165 RX8 yX8_nextArc wsX8_nextArc) := goodIn_app (goodIn_of _ (by decide +kernel)) ggX8_trims_X8_nextArc
set_option maxRecDepth 20000 in
theorem ggX8_trims_X8_targetOf : GoodIn wsX8_trims wsX8_targetOf := goodIn_r _ [27] rfl (by decide +kernel)
set_option maxRecDepth 20000 in
theorem gX8_trims_X8_targetOf : GoodIn wsX8_trims (va_wsS RX8 149 yX8_targetOf wsX8_targetOf) := goodIn_app (goodIn_of _ (by decide +kernel)) ggX8_trims_X8_targetOf
theorem dX8_trims_0 : decode cX8_trims 0 = .ok (.aload_n 0, 1) := by decide +kernel
theorem dX8_trims_1 : decode cX8_trims 1 = .ok (.iload_n 1, 1) := by decide +kernel
theorem dX8_trims_2 : decode cX8_trims 2 = .ok (.invokevirtual 155, 3) := by decide +kernel
theorem dX8_trims_5 : decode cX8_trims 5 = .ok (.iconst 0, 1) := by decide +kernel
theorem dX8_trims_6 : decode cX8_trims 6 = .ok (.istore_n 2, 1) := by decide +kernel
theorem dX8_trims_7 : decode cX8_trims 7 = .ok (.iload_n 2, 1) := by decide +kernel
theorem dX8_trims_8 : decode cX8_trims 8 = .ok (.sipush 1024, 3) := by decide +kernel
theorem dX8_trims_11 : decode cX8_trims 11 = .ok (.if_icmp .ge 16, 3) := by decide +kernel
theorem dX8_trims_14 : decode cX8_trims 14 = .ok (.aload_n 0, 1) := by decide +kernel
theorem dX8_trims_15 : decode cX8_trims 15 = .ok (.getfield 54, 3) := by decide +kernel
theorem dX8_trims_18 : decode cX8_trims 18 = .ok (.iload_n 2, 1) := by decide +kernel
theorem dX8_trims_19 : decode cX8_trims 19 = .ok (.iconst (-1), 1) := by decide +kernel
theorem dX8_trims_20 : decode cX8_trims 20 = .ok (.iastore, 1) := by decide +kernel
theorem dX8_trims_21 : decode cX8_trims 21 = .ok (.iinc 2 1, 3) := by decide +kernel
theorem dX8_trims_24 : decode cX8_trims 24 = .ok (.goto (-17), 3) := by decide +kernel
theorem dX8_trims_27 : decode cX8_trims 27 = .ok (.aload_n 0, 1) := by decide +kernel
theorem dX8_trims_28 : decode cX8_trims 28 = .ok (.iconst 0, 1) := by decide +kernel
theorem dX8_trims_29 : decode cX8_trims 29 = .ok (.putfield 152, 3) := by decide +kernel
theorem dX8_trims_32 : decode cX8_trims 32 = .ok (.aload_n 0, 1) := by decide +kernel
theorem dX8_trims_33 : decode cX8_trims 33 = .ok (.iconst 0, 1) := by decide +kernel
theorem dX8_trims_34 : decode cX8_trims 34 = .ok (.putfield 159, 3) := by decide +kernel
theorem dX8_trims_37 : decode cX8_trims 37 = .ok (.aload_n 0, 1) := by decide +kernel
theorem dX8_trims_38 : decode cX8_trims 38 = .ok (.iload_n 1, 1) := by decide +kernel
theorem dX8_trims_39 : decode cX8_trims 39 = .ok (.invokevirtual 162, 3) := by decide +kernel
theorem dX8_trims_42 : decode cX8_trims 42 = .ok (.iconst 1, 1) := by decide +kernel
theorem dX8_trims_43 : decode cX8_trims 43 = .ok (.istore_n 2, 1) := by decide +kernel
theorem dX8_trims_44 : decode cX8_trims 44 = .ok (.iconst 0, 1) := by decide +kernel
theorem dX8_trims_45 : decode cX8_trims 45 = .ok (.istore_n 3, 1) := by decide +kernel
theorem dX8_trims_46 : decode cX8_trims 46 = .ok (.iload_n 3, 1) := by decide +kernel
theorem dX8_trims_47 : decode cX8_trims 47 = .ok (.aload_n 0, 1) := by decide +kernel
theorem dX8_trims_48 : decode cX8_trims 48 = .ok (.getfield 152, 3) := by decide +kernel
theorem dX8_trims_51 : decode cX8_trims 51 = .ok (.if_icmp .ge 214, 3) := by decide +kernel
theorem dX8_trims_54 : decode cX8_trims 54 = .ok (.iload_n 2, 1) := by decide +kernel
theorem dX8_trims_55 : decode cX8_trims 55 = .ok (.ifCond .eq 210, 3) := by decide +kernel
theorem dX8_trims_58 : decode cX8_trims 58 = .ok (.aload_n 0, 1) := by decide +kernel
theorem dX8_trims_59 : decode cX8_trims 59 = .ok (.getfield 51, 3) := by decide +kernel
theorem dX8_trims_62 : decode cX8_trims 62 = .ok (.iload_n 1, 1) := by decide +kernel
theorem dX8_trims_63 : decode cX8_trims 63 = .ok (.baload, 1) := by decide +kernel
theorem dX8_trims_64 : decode cX8_trims 64 = .ok (.ifCond .eq 201, 3) := by decide +kernel
theorem dX8_trims_67 : decode cX8_trims 67 = .ok (.aload_n 0, 1) := by decide +kernel
theorem dX8_trims_68 : decode cX8_trims 68 = .ok (.aload_n 0, 1) := by decide +kernel
theorem dX8_trims_69 : decode cX8_trims 69 = .ok (.getfield 57, 3) := by decide +kernel
theorem dX8_trims_72 : decode cX8_trims 72 = .ok (.iload_n 3, 1) := by decide +kernel
theorem dX8_trims_73 : decode cX8_trims 73 = .ok (.iaload, 1) := by decide +kernel
theorem dX8_trims_74 : decode cX8_trims 74 = .ok (.iconst (-1), 1) := by decide +kernel
theorem dX8_trims_75 : decode cX8_trims 75 = .ok (.invokevirtual 165, 3) := by decide +kernel
theorem dX8_trims_78 : decode cX8_trims 78 = .ok (.istore 4, 2) := by decide +kernel
theorem dX8_trims_80 : decode cX8_trims 80 = .ok (.iload 4, 2) := by decide +kernel
theorem dX8_trims_82 : decode cX8_trims 82 = .ok (.iconst (-1), 1) := by decide +kernel
theorem dX8_trims_83 : decode cX8_trims 83 = .ok (.if_icmp .eq 176, 3) := by decide +kernel
theorem dX8_trims_86 : decode cX8_trims 86 = .ok (.iload_n 2, 1) := by decide +kernel
theorem dX8_trims_87 : decode cX8_trims 87 = .ok (.ifCond .eq 172, 3) := by decide +kernel
theorem dX8_trims_90 : decode cX8_trims 90 = .ok (.aload_n 0, 1) := by decide +kernel
theorem dX8_trims_91 : decode cX8_trims 91 = .ok (.aload_n 0, 1) := by decide +kernel
theorem dX8_trims_92 : decode cX8_trims 92 = .ok (.getfield 38, 3) := by decide +kernel
theorem dX8_trims_95 : decode cX8_trims 95 = .ok (.iload 4, 2) := by decide +kernel
theorem dX8_trims_97 : decode cX8_trims 97 = .ok (.iaload, 1) := by decide +kernel
theorem dX8_trims_98 : decode cX8_trims 98 = .ok (.invokestatic 149, 3) := by decide +kernel
theorem dX8_trims_101 : decode cX8_trims 101 = .ok (.invokevirtual 162, 3) := by decide +kernel
theorem dX8_trims_104 : decode cX8_trims 104 = .ok (.aload_n 0, 1) := by decide +kernel
theorem dX8_trims_105 : decode cX8_trims 105 = .ok (.getfield 159, 3) := by decide +kernel
theorem dX8_trims_108 : decode cX8_trims 108 = .ok (.sipush 160, 3) := by decide +kernel
theorem dX8_trims_111 : decode cX8_trims 111 = .ok (.if_icmp .ge 16, 3) := by decide +kernel
theorem dX8_trims_114 : decode cX8_trims 114 = .ok (.aload_n 0, 1) := by decide +kernel
theorem dX8_trims_115 : decode cX8_trims 115 = .ok (.getfield 152, 3) := by decide +kernel
theorem dX8_trims_118 : decode cX8_trims 118 = .ok (.bipush 32, 2) := by decide +kernel
theorem dX8_trims_120 : decode cX8_trims 120 = .ok (.if_icmp .gt 7, 3) := by decide +kernel
theorem dX8_trims_123 : decode cX8_trims 123 = .ok (.iconst 1, 1) := by decide +kernel
theorem dX8_trims_124 : decode cX8_trims 124 = .ok (.goto 4, 3) := by decide +kernel
theorem dX8_trims_127 : decode cX8_trims 127 = .ok (.iconst 0, 1) := by decide +kernel
theorem dX8_trims_128 : decode cX8_trims 128 = .ok (.istore_n 2, 1) := by decide +kernel
theorem dX8_trims_129 : decode cX8_trims 129 = .ok (.iload_n 2, 1) := by decide +kernel
theorem dX8_trims_130 : decode cX8_trims 130 = .ok (.ifCond .eq 107, 3) := by decide +kernel
theorem dX8_trims_133 : decode cX8_trims 133 = .ok (.aload_n 0, 1) := by decide +kernel
theorem dX8_trims_134 : decode cX8_trims 134 = .ok (.getfield 60, 3) := by decide +kernel
theorem dX8_trims_137 : decode cX8_trims 137 = .ok (.aload_n 0, 1) := by decide +kernel
theorem dX8_trims_138 : decode cX8_trims 138 = .ok (.getfield 159, 3) := by decide +kernel
theorem dX8_trims_141 : decode cX8_trims 141 = .ok (.iload_n 3, 1) := by decide +kernel
theorem dX8_trims_142 : decode cX8_trims 142 = .ok (.iastore, 1) := by decide +kernel
theorem dX8_trims_143 : decode cX8_trims 143 = .ok (.aload_n 0, 1) := by decide +kernel
theorem dX8_trims_144 : decode cX8_trims 144 = .ok (.getfield 63, 3) := by decide +kernel
theorem dX8_trims_147 : decode cX8_trims 147 = .ok (.aload_n 0, 1) := by decide +kernel
theorem dX8_trims_148 : decode cX8_trims 148 = .ok (.getfield 159, 3) := by decide +kernel
theorem dX8_trims_151 : decode cX8_trims 151 = .ok (.aload_n 0, 1) := by decide +kernel
theorem dX8_trims_152 : decode cX8_trims 152 = .ok (.getfield 38, 3) := by decide +kernel
theorem dX8_trims_155 : decode cX8_trims 155 = .ok (.iload 4, 2) := by decide +kernel
theorem dX8_trims_157 : decode cX8_trims 157 = .ok (.iaload, 1) := by decide +kernel
theorem dX8_trims_158 : decode cX8_trims 158 = .ok (.bipush 14, 2) := by decide +kernel
theorem dX8_trims_160 : decode cX8_trims 160 = .ok (.ishr, 1) := by decide +kernel
theorem dX8_trims_161 : decode cX8_trims 161 = .ok (.bipush 15, 2) := by decide +kernel
theorem dX8_trims_163 : decode cX8_trims 163 = .ok (.iand, 1) := by decide +kernel
theorem dX8_trims_164 : decode cX8_trims 164 = .ok (.iastore, 1) := by decide +kernel
theorem dX8_trims_165 : decode cX8_trims 165 = .ok (.aload_n 0, 1) := by decide +kernel
theorem dX8_trims_166 : decode cX8_trims 166 = .ok (.getfield 66, 3) := by decide +kernel
theorem dX8_trims_169 : decode cX8_trims 169 = .ok (.aload_n 0, 1) := by decide +kernel
theorem dX8_trims_170 : decode cX8_trims 170 = .ok (.getfield 159, 3) := by decide +kernel
theorem dX8_trims_173 : decode cX8_trims 173 = .ok (.aload_n 0, 1) := by decide +kernel
theorem dX8_trims_174 : decode cX8_trims 174 = .ok (.getfield 38, 3) := by decide +kernel
theorem dX8_trims_177 : decode cX8_trims 177 = .ok (.iload 4, 2) := by decide +kernel
theorem dX8_trims_179 : decode cX8_trims 179 = .ok (.iaload, 1) := by decide +kernel
theorem dX8_trims_180 : decode cX8_trims 180 = .ok (.bipush 10, 2) := by decide +kernel
theorem dX8_trims_182 : decode cX8_trims 182 = .ok (.ishr, 1) := by decide +kernel
theorem dX8_trims_183 : decode cX8_trims 183 = .ok (.bipush 15, 2) := by decide +kernel
theorem dX8_trims_185 : decode cX8_trims 185 = .ok (.iand, 1) := by decide +kernel
theorem dX8_trims_186 : decode cX8_trims 186 = .ok (.iastore, 1) := by decide +kernel
theorem dX8_trims_187 : decode cX8_trims 187 = .ok (.aload_n 0, 1) := by decide +kernel
theorem dX8_trims_188 : decode cX8_trims 188 = .ok (.getfield 69, 3) := by decide +kernel
theorem dX8_trims_191 : decode cX8_trims 191 = .ok (.aload_n 0, 1) := by decide +kernel
theorem dX8_trims_192 : decode cX8_trims 192 = .ok (.getfield 159, 3) := by decide +kernel
theorem dX8_trims_195 : decode cX8_trims 195 = .ok (.aload_n 0, 1) := by decide +kernel
theorem dX8_trims_196 : decode cX8_trims 196 = .ok (.getfield 41, 3) := by decide +kernel
theorem dX8_trims_199 : decode cX8_trims 199 = .ok (.iload 4, 2) := by decide +kernel
theorem dX8_trims_201 : decode cX8_trims 201 = .ok (.iaload, 1) := by decide +kernel
theorem dX8_trims_202 : decode cX8_trims 202 = .ok (.iastore, 1) := by decide +kernel
theorem dX8_trims_203 : decode cX8_trims 203 = .ok (.aload_n 0, 1) := by decide +kernel
theorem dX8_trims_204 : decode cX8_trims 204 = .ok (.getfield 72, 3) := by decide +kernel
theorem dX8_trims_207 : decode cX8_trims 207 = .ok (.aload_n 0, 1) := by decide +kernel
theorem dX8_trims_208 : decode cX8_trims 208 = .ok (.getfield 159, 3) := by decide +kernel
theorem dX8_trims_211 : decode cX8_trims 211 = .ok (.aload_n 0, 1) := by decide +kernel
theorem dX8_trims_212 : decode cX8_trims 212 = .ok (.getfield 54, 3) := by decide +kernel
theorem dX8_trims_215 : decode cX8_trims 215 = .ok (.aload_n 0, 1) := by decide +kernel
theorem dX8_trims_216 : decode cX8_trims 216 = .ok (.getfield 38, 3) := by decide +kernel
theorem dX8_trims_219 : decode cX8_trims 219 = .ok (.iload 4, 2) := by decide +kernel
theorem dX8_trims_221 : decode cX8_trims 221 = .ok (.iaload, 1) := by decide +kernel
theorem dX8_trims_222 : decode cX8_trims 222 = .ok (.invokestatic 149, 3) := by decide +kernel
theorem dX8_trims_225 : decode cX8_trims 225 = .ok (.iaload, 1) := by decide +kernel
theorem dX8_trims_226 : decode cX8_trims 226 = .ok (.iastore, 1) := by decide +kernel
theorem dX8_trims_227 : decode cX8_trims 227 = .ok (.aload_n 0, 1) := by decide +kernel
theorem dX8_trims_228 : decode cX8_trims 228 = .ok (.dup, 1) := by decide +kernel
theorem dX8_trims_229 : decode cX8_trims 229 = .ok (.getfield 159, 3) := by decide +kernel
theorem dX8_trims_232 : decode cX8_trims 232 = .ok (.iconst 1, 1) := by decide +kernel
theorem dX8_trims_233 : decode cX8_trims 233 = .ok (.iadd, 1) := by decide +kernel
theorem dX8_trims_234 : decode cX8_trims 234 = .ok (.putfield 159, 3) := by decide +kernel
theorem dX8_trims_237 : decode cX8_trims 237 = .ok (.aload_n 0, 1) := by decide +kernel
theorem dX8_trims_238 : decode cX8_trims 238 = .ok (.aload_n 0, 1) := by decide +kernel
theorem dX8_trims_239 : decode cX8_trims 239 = .ok (.getfield 57, 3) := by decide +kernel
theorem dX8_trims_242 : decode cX8_trims 242 = .ok (.iload_n 3, 1) := by decide +kernel
theorem dX8_trims_243 : decode cX8_trims 243 = .ok (.iaload, 1) := by decide +kernel
theorem dX8_trims_244 : decode cX8_trims 244 = .ok (.aload_n 0, 1) := by decide +kernel
theorem dX8_trims_245 : decode cX8_trims 245 = .ok (.getfield 38, 3) := by decide +kernel
theorem dX8_trims_248 : decode cX8_trims 248 = .ok (.iload 4, 2) := by decide +kernel
theorem dX8_trims_250 : decode cX8_trims 250 = .ok (.iaload, 1) := by decide +kernel
theorem dX8_trims_251 : decode cX8_trims 251 = .ok (.invokevirtual 165, 3) := by decide +kernel
theorem dX8_trims_254 : decode cX8_trims 254 = .ok (.istore 4, 2) := by decide +kernel
theorem dX8_trims_256 : decode cX8_trims 256 = .ok (.goto (-176), 3) := by decide +kernel
theorem dX8_trims_259 : decode cX8_trims 259 = .ok (.iinc 3 1, 3) := by decide +kernel
theorem dX8_trims_262 : decode cX8_trims 262 = .ok (.goto (-216), 3) := by decide +kernel
theorem dX8_trims_265 : decode cX8_trims 265 = .ok (.aload_n 0, 1) := by decide +kernel
theorem dX8_trims_266 : decode cX8_trims 266 = .ok (.iconst 0, 1) := by decide +kernel
theorem dX8_trims_267 : decode cX8_trims 267 = .ok (.putfield 169, 3) := by decide +kernel
theorem dX8_trims_270 : decode cX8_trims 270 = .ok (.iconst 0, 1) := by decide +kernel
theorem dX8_trims_271 : decode cX8_trims 271 = .ok (.istore_n 3, 1) := by decide +kernel
theorem dX8_trims_272 : decode cX8_trims 272 = .ok (.iload_n 3, 1) := by decide +kernel
theorem dX8_trims_273 : decode cX8_trims 273 = .ok (.aload_n 0, 1) := by decide +kernel
theorem dX8_trims_274 : decode cX8_trims 274 = .ok (.getfield 152, 3) := by decide +kernel
theorem dX8_trims_277 : decode cX8_trims 277 = .ok (.if_icmp .ge 43, 3) := by decide +kernel
theorem dX8_trims_280 : decode cX8_trims 280 = .ok (.iload_n 2, 1) := by decide +kernel
theorem dX8_trims_281 : decode cX8_trims 281 = .ok (.ifCond .eq 39, 3) := by decide +kernel
theorem dX8_trims_284 : decode cX8_trims 284 = .ok (.aload_n 0, 1) := by decide +kernel
theorem dX8_trims_285 : decode cX8_trims 285 = .ok (.dup, 1) := by decide +kernel
theorem dX8_trims_286 : decode cX8_trims 286 = .ok (.getfield 169, 3) := by decide +kernel
theorem dX8_trims_289 : decode cX8_trims 289 = .ok (.aload_n 0, 1) := by decide +kernel
theorem dX8_trims_290 : decode cX8_trims 290 = .ok (.getfield 44, 3) := by decide +kernel
theorem dX8_trims_293 : decode cX8_trims 293 = .ok (.aload_n 0, 1) := by decide +kernel
theorem dX8_trims_294 : decode cX8_trims 294 = .ok (.getfield 57, 3) := by decide +kernel
theorem dX8_trims_297 : decode cX8_trims 297 = .ok (.iload_n 3, 1) := by decide +kernel
theorem dX8_trims_298 : decode cX8_trims 298 = .ok (.iaload, 1) := by decide +kernel
theorem dX8_trims_299 : decode cX8_trims 299 = .ok (.baload, 1) := by decide +kernel
theorem dX8_trims_300 : decode cX8_trims 300 = .ok (.ifCond .eq 9, 3) := by decide +kernel
theorem dX8_trims_303 : decode cX8_trims 303 = .ok (.iconst 1, 1) := by decide +kernel
theorem dX8_trims_304 : decode cX8_trims 304 = .ok (.iload_n 3, 1) := by decide +kernel
theorem dX8_trims_305 : decode cX8_trims 305 = .ok (.ishl, 1) := by decide +kernel
theorem dX8_trims_306 : decode cX8_trims 306 = .ok (.goto 4, 3) := by decide +kernel
theorem dX8_trims_309 : decode cX8_trims 309 = .ok (.iconst 0, 1) := by decide +kernel
theorem dX8_trims_310 : decode cX8_trims 310 = .ok (.ior, 1) := by decide +kernel
theorem dX8_trims_311 : decode cX8_trims 311 = .ok (.putfield 169, 3) := by decide +kernel
theorem dX8_trims_314 : decode cX8_trims 314 = .ok (.iinc 3 1, 3) := by decide +kernel
theorem dX8_trims_317 : decode cX8_trims 317 = .ok (.goto (-45), 3) := by decide +kernel
theorem dX8_trims_320 : decode cX8_trims 320 = .ok (.iload_n 2, 1) := by decide +kernel
theorem dX8_trims_321 : decode cX8_trims 321 = .ok (.ireturn, 1) := by decide +kernel
theorem dX8_isBehind_0 : decode cX8_isBehind 0 = .ok (.aload_n 0, 1) := by decide +kernel
theorem dX8_isBehind_1 : decode cX8_isBehind 1 = .ok (.getfield 60, 3) := by decide +kernel
theorem dX8_isBehind_4 : decode cX8_isBehind 4 = .ok (.iload_n 1, 1) := by decide +kernel
theorem dX8_isBehind_5 : decode cX8_isBehind 5 = .ok (.iaload, 1) := by decide +kernel
theorem dX8_isBehind_6 : decode cX8_isBehind 6 = .ok (.aload_n 0, 1) := by decide +kernel
theorem dX8_isBehind_7 : decode cX8_isBehind 7 = .ok (.getfield 60, 3) := by decide +kernel
theorem dX8_isBehind_10 : decode cX8_isBehind 10 = .ok (.iload_n 2, 1) := by decide +kernel
theorem dX8_isBehind_11 : decode cX8_isBehind 11 = .ok (.iaload, 1) := by decide +kernel
theorem dX8_isBehind_12 : decode cX8_isBehind 12 = .ok (.if_icmp .eq 26, 3) := by decide +kernel
theorem dX8_isBehind_15 : decode cX8_isBehind 15 = .ok (.aload_n 0, 1) := by decide +kernel
theorem dX8_isBehind_16 : decode cX8_isBehind 16 = .ok (.getfield 60, 3) := by decide +kernel
theorem dX8_isBehind_19 : decode cX8_isBehind 19 = .ok (.iload_n 1, 1) := by decide +kernel
theorem dX8_isBehind_20 : decode cX8_isBehind 20 = .ok (.iaload, 1) := by decide +kernel
theorem dX8_isBehind_21 : decode cX8_isBehind 21 = .ok (.aload_n 0, 1) := by decide +kernel
theorem dX8_isBehind_22 : decode cX8_isBehind 22 = .ok (.getfield 60, 3) := by decide +kernel
theorem dX8_isBehind_25 : decode cX8_isBehind 25 = .ok (.iload_n 2, 1) := by decide +kernel
theorem dX8_isBehind_26 : decode cX8_isBehind 26 = .ok (.iaload, 1) := by decide +kernel
theorem dX8_isBehind_27 : decode cX8_isBehind 27 = .ok (.if_icmp .le 7, 3) := by decide +kernel
theorem dX8_isBehind_30 : decode cX8_isBehind 30 = .ok (.iconst 1, 1) := by decide +kernel
theorem dX8_isBehind_31 : decode cX8_isBehind 31 = .ok (.goto 103, 3) := by decide +kernel
theorem dX8_isBehind_34 : decode cX8_isBehind 34 = .ok (.iconst 0, 1) := by decide +kernel
theorem dX8_isBehind_35 : decode cX8_isBehind 35 = .ok (.goto 99, 3) := by decide +kernel
theorem dX8_isBehind_38 : decode cX8_isBehind 38 = .ok (.aload_n 0, 1) := by decide +kernel
theorem dX8_isBehind_39 : decode cX8_isBehind 39 = .ok (.getfield 63, 3) := by decide +kernel
theorem dX8_isBehind_42 : decode cX8_isBehind 42 = .ok (.iload_n 1, 1) := by decide +kernel
theorem dX8_isBehind_43 : decode cX8_isBehind 43 = .ok (.iaload, 1) := by decide +kernel
theorem dX8_isBehind_44 : decode cX8_isBehind 44 = .ok (.aload_n 0, 1) := by decide +kernel
theorem dX8_isBehind_45 : decode cX8_isBehind 45 = .ok (.getfield 63, 3) := by decide +kernel
theorem dX8_isBehind_48 : decode cX8_isBehind 48 = .ok (.iload_n 2, 1) := by decide +kernel
theorem dX8_isBehind_49 : decode cX8_isBehind 49 = .ok (.iaload, 1) := by decide +kernel
theorem dX8_isBehind_50 : decode cX8_isBehind 50 = .ok (.if_icmp .eq 26, 3) := by decide +kernel
theorem dX8_isBehind_53 : decode cX8_isBehind 53 = .ok (.aload_n 0, 1) := by decide +kernel
theorem dX8_isBehind_54 : decode cX8_isBehind 54 = .ok (.getfield 63, 3) := by decide +kernel
theorem dX8_isBehind_57 : decode cX8_isBehind 57 = .ok (.iload_n 1, 1) := by decide +kernel
theorem dX8_isBehind_58 : decode cX8_isBehind 58 = .ok (.iaload, 1) := by decide +kernel
theorem dX8_isBehind_59 : decode cX8_isBehind 59 = .ok (.aload_n 0, 1) := by decide +kernel
theorem dX8_isBehind_60 : decode cX8_isBehind 60 = .ok (.getfield 63, 3) := by decide +kernel
theorem dX8_isBehind_63 : decode cX8_isBehind 63 = .ok (.iload_n 2, 1) := by decide +kernel
theorem dX8_isBehind_64 : decode cX8_isBehind 64 = .ok (.iaload, 1) := by decide +kernel
theorem dX8_isBehind_65 : decode cX8_isBehind 65 = .ok (.if_icmp .le 7, 3) := by decide +kernel
theorem dX8_isBehind_68 : decode cX8_isBehind 68 = .ok (.iconst 1, 1) := by decide +kernel
theorem dX8_isBehind_69 : decode cX8_isBehind 69 = .ok (.goto 65, 3) := by decide +kernel
theorem dX8_isBehind_72 : decode cX8_isBehind 72 = .ok (.iconst 0, 1) := by decide +kernel
theorem dX8_isBehind_73 : decode cX8_isBehind 73 = .ok (.goto 61, 3) := by decide +kernel
theorem dX8_isBehind_76 : decode cX8_isBehind 76 = .ok (.aload_n 0, 1) := by decide +kernel
theorem dX8_isBehind_77 : decode cX8_isBehind 77 = .ok (.getfield 66, 3) := by decide +kernel
theorem dX8_isBehind_80 : decode cX8_isBehind 80 = .ok (.iload_n 1, 1) := by decide +kernel
theorem dX8_isBehind_81 : decode cX8_isBehind 81 = .ok (.iaload, 1) := by decide +kernel
theorem dX8_isBehind_82 : decode cX8_isBehind 82 = .ok (.aload_n 0, 1) := by decide +kernel
theorem dX8_isBehind_83 : decode cX8_isBehind 83 = .ok (.getfield 66, 3) := by decide +kernel
theorem dX8_isBehind_86 : decode cX8_isBehind 86 = .ok (.iload_n 2, 1) := by decide +kernel
theorem dX8_isBehind_87 : decode cX8_isBehind 87 = .ok (.iaload, 1) := by decide +kernel
theorem dX8_isBehind_88 : decode cX8_isBehind 88 = .ok (.if_icmp .eq 26, 3) := by decide +kernel
theorem dX8_isBehind_91 : decode cX8_isBehind 91 = .ok (.aload_n 0, 1) := by decide +kernel
theorem dX8_isBehind_92 : decode cX8_isBehind 92 = .ok (.getfield 66, 3) := by decide +kernel
theorem dX8_isBehind_95 : decode cX8_isBehind 95 = .ok (.iload_n 1, 1) := by decide +kernel
theorem dX8_isBehind_96 : decode cX8_isBehind 96 = .ok (.iaload, 1) := by decide +kernel
theorem dX8_isBehind_97 : decode cX8_isBehind 97 = .ok (.aload_n 0, 1) := by decide +kernel
theorem dX8_isBehind_98 : decode cX8_isBehind 98 = .ok (.getfield 66, 3) := by decide +kernel
theorem dX8_isBehind_101 : decode cX8_isBehind 101 = .ok (.iload_n 2, 1) := by decide +kernel
theorem dX8_isBehind_102 : decode cX8_isBehind 102 = .ok (.iaload, 1) := by decide +kernel
theorem dX8_isBehind_103 : decode cX8_isBehind 103 = .ok (.if_icmp .le 7, 3) := by decide +kernel
theorem dX8_isBehind_106 : decode cX8_isBehind 106 = .ok (.iconst 1, 1) := by decide +kernel
theorem dX8_isBehind_107 : decode cX8_isBehind 107 = .ok (.goto 27, 3) := by decide +kernel
theorem dX8_isBehind_110 : decode cX8_isBehind 110 = .ok (.iconst 0, 1) := by decide +kernel
theorem dX8_isBehind_111 : decode cX8_isBehind 111 = .ok (.goto 23, 3) := by decide +kernel
theorem dX8_isBehind_114 : decode cX8_isBehind 114 = .ok (.aload_n 0, 1) := by decide +kernel
theorem dX8_isBehind_115 : decode cX8_isBehind 115 = .ok (.getfield 72, 3) := by decide +kernel
theorem dX8_isBehind_118 : decode cX8_isBehind 118 = .ok (.iload_n 1, 1) := by decide +kernel
theorem dX8_isBehind_119 : decode cX8_isBehind 119 = .ok (.iaload, 1) := by decide +kernel
theorem dX8_isBehind_120 : decode cX8_isBehind 120 = .ok (.aload_n 0, 1) := by decide +kernel
theorem dX8_isBehind_121 : decode cX8_isBehind 121 = .ok (.getfield 72, 3) := by decide +kernel
theorem dX8_isBehind_124 : decode cX8_isBehind 124 = .ok (.iload_n 2, 1) := by decide +kernel
theorem dX8_isBehind_125 : decode cX8_isBehind 125 = .ok (.iaload, 1) := by decide +kernel
theorem dX8_isBehind_126 : decode cX8_isBehind 126 = .ok (.if_icmp .le 7, 3) := by decide +kernel
theorem dX8_isBehind_129 : decode cX8_isBehind 129 = .ok (.iconst 1, 1) := by decide +kernel
theorem dX8_isBehind_130 : decode cX8_isBehind 130 = .ok (.goto 4, 3) := by decide +kernel
theorem dX8_isBehind_133 : decode cX8_isBehind 133 = .ok (.iconst 0, 1) := by decide +kernel
theorem dX8_isBehind_134 : decode cX8_isBehind 134 = .ok (.ireturn, 1) := by decide +kernel
theorem dX8_exchanges_0 : decode cX8_exchanges 0 = .ok (.aload_n 0, 1) := by decide +kernel
theorem dX8_exchanges_1 : decode cX8_exchanges 1 = .ok (.getfield 60, 3) := by decide +kernel
theorem dX8_exchanges_4 : decode cX8_exchanges 4 = .ok (.iload_n 1, 1) := by decide +kernel
theorem dX8_exchanges_5 : decode cX8_exchanges 5 = .ok (.iaload, 1) := by decide +kernel
theorem dX8_exchanges_6 : decode cX8_exchanges 6 = .ok (.istore_n 3, 1) := by decide +kernel
theorem dX8_exchanges_7 : decode cX8_exchanges 7 = .ok (.aload_n 0, 1) := by decide +kernel
theorem dX8_exchanges_8 : decode cX8_exchanges 8 = .ok (.getfield 63, 3) := by decide +kernel
theorem dX8_exchanges_11 : decode cX8_exchanges 11 = .ok (.iload_n 1, 1) := by decide +kernel
theorem dX8_exchanges_12 : decode cX8_exchanges 12 = .ok (.iaload, 1) := by decide +kernel
theorem dX8_exchanges_13 : decode cX8_exchanges 13 = .ok (.istore 4, 2) := by decide +kernel
theorem dX8_exchanges_15 : decode cX8_exchanges 15 = .ok (.aload_n 0, 1) := by decide +kernel
theorem dX8_exchanges_16 : decode cX8_exchanges 16 = .ok (.getfield 66, 3) := by decide +kernel
theorem dX8_exchanges_19 : decode cX8_exchanges 19 = .ok (.iload_n 1, 1) := by decide +kernel
theorem dX8_exchanges_20 : decode cX8_exchanges 20 = .ok (.iaload, 1) := by decide +kernel
theorem dX8_exchanges_21 : decode cX8_exchanges 21 = .ok (.istore 5, 2) := by decide +kernel
theorem dX8_exchanges_23 : decode cX8_exchanges 23 = .ok (.aload_n 0, 1) := by decide +kernel
theorem dX8_exchanges_24 : decode cX8_exchanges 24 = .ok (.getfield 69, 3) := by decide +kernel
theorem dX8_exchanges_27 : decode cX8_exchanges 27 = .ok (.iload_n 1, 1) := by decide +kernel
theorem dX8_exchanges_28 : decode cX8_exchanges 28 = .ok (.iaload, 1) := by decide +kernel
theorem dX8_exchanges_29 : decode cX8_exchanges 29 = .ok (.istore 6, 2) := by decide +kernel
theorem dX8_exchanges_31 : decode cX8_exchanges 31 = .ok (.aload_n 0, 1) := by decide +kernel
theorem dX8_exchanges_32 : decode cX8_exchanges 32 = .ok (.getfield 72, 3) := by decide +kernel
theorem dX8_exchanges_35 : decode cX8_exchanges 35 = .ok (.iload_n 1, 1) := by decide +kernel
theorem dX8_exchanges_36 : decode cX8_exchanges 36 = .ok (.iaload, 1) := by decide +kernel
theorem dX8_exchanges_37 : decode cX8_exchanges 37 = .ok (.istore 7, 2) := by decide +kernel
theorem dX8_exchanges_39 : decode cX8_exchanges 39 = .ok (.aload_n 0, 1) := by decide +kernel
theorem dX8_exchanges_40 : decode cX8_exchanges 40 = .ok (.getfield 60, 3) := by decide +kernel
theorem dX8_exchanges_43 : decode cX8_exchanges 43 = .ok (.iload_n 1, 1) := by decide +kernel
theorem dX8_exchanges_44 : decode cX8_exchanges 44 = .ok (.aload_n 0, 1) := by decide +kernel
theorem dX8_exchanges_45 : decode cX8_exchanges 45 = .ok (.getfield 60, 3) := by decide +kernel
theorem dX8_exchanges_48 : decode cX8_exchanges 48 = .ok (.iload_n 2, 1) := by decide +kernel
theorem dX8_exchanges_49 : decode cX8_exchanges 49 = .ok (.iaload, 1) := by decide +kernel
theorem dX8_exchanges_50 : decode cX8_exchanges 50 = .ok (.iastore, 1) := by decide +kernel
theorem dX8_exchanges_51 : decode cX8_exchanges 51 = .ok (.aload_n 0, 1) := by decide +kernel
theorem dX8_exchanges_52 : decode cX8_exchanges 52 = .ok (.getfield 63, 3) := by decide +kernel
theorem dX8_exchanges_55 : decode cX8_exchanges 55 = .ok (.iload_n 1, 1) := by decide +kernel
theorem dX8_exchanges_56 : decode cX8_exchanges 56 = .ok (.aload_n 0, 1) := by decide +kernel
theorem dX8_exchanges_57 : decode cX8_exchanges 57 = .ok (.getfield 63, 3) := by decide +kernel
theorem dX8_exchanges_60 : decode cX8_exchanges 60 = .ok (.iload_n 2, 1) := by decide +kernel
theorem dX8_exchanges_61 : decode cX8_exchanges 61 = .ok (.iaload, 1) := by decide +kernel
theorem dX8_exchanges_62 : decode cX8_exchanges 62 = .ok (.iastore, 1) := by decide +kernel
theorem dX8_exchanges_63 : decode cX8_exchanges 63 = .ok (.aload_n 0, 1) := by decide +kernel
theorem dX8_exchanges_64 : decode cX8_exchanges 64 = .ok (.getfield 66, 3) := by decide +kernel
theorem dX8_exchanges_67 : decode cX8_exchanges 67 = .ok (.iload_n 1, 1) := by decide +kernel
theorem dX8_exchanges_68 : decode cX8_exchanges 68 = .ok (.aload_n 0, 1) := by decide +kernel
theorem dX8_exchanges_69 : decode cX8_exchanges 69 = .ok (.getfield 66, 3) := by decide +kernel
theorem dX8_exchanges_72 : decode cX8_exchanges 72 = .ok (.iload_n 2, 1) := by decide +kernel
theorem dX8_exchanges_73 : decode cX8_exchanges 73 = .ok (.iaload, 1) := by decide +kernel
theorem dX8_exchanges_74 : decode cX8_exchanges 74 = .ok (.iastore, 1) := by decide +kernel
theorem dX8_exchanges_75 : decode cX8_exchanges 75 = .ok (.aload_n 0, 1) := by decide +kernel
theorem dX8_exchanges_76 : decode cX8_exchanges 76 = .ok (.getfield 69, 3) := by decide +kernel
theorem dX8_exchanges_79 : decode cX8_exchanges 79 = .ok (.iload_n 1, 1) := by decide +kernel
theorem dX8_exchanges_80 : decode cX8_exchanges 80 = .ok (.aload_n 0, 1) := by decide +kernel
theorem dX8_exchanges_81 : decode cX8_exchanges 81 = .ok (.getfield 69, 3) := by decide +kernel
theorem dX8_exchanges_84 : decode cX8_exchanges 84 = .ok (.iload_n 2, 1) := by decide +kernel
theorem dX8_exchanges_85 : decode cX8_exchanges 85 = .ok (.iaload, 1) := by decide +kernel
theorem dX8_exchanges_86 : decode cX8_exchanges 86 = .ok (.iastore, 1) := by decide +kernel
theorem dX8_exchanges_87 : decode cX8_exchanges 87 = .ok (.aload_n 0, 1) := by decide +kernel
theorem dX8_exchanges_88 : decode cX8_exchanges 88 = .ok (.getfield 72, 3) := by decide +kernel
theorem dX8_exchanges_91 : decode cX8_exchanges 91 = .ok (.iload_n 1, 1) := by decide +kernel
theorem dX8_exchanges_92 : decode cX8_exchanges 92 = .ok (.aload_n 0, 1) := by decide +kernel
theorem dX8_exchanges_93 : decode cX8_exchanges 93 = .ok (.getfield 72, 3) := by decide +kernel
theorem dX8_exchanges_96 : decode cX8_exchanges 96 = .ok (.iload_n 2, 1) := by decide +kernel
theorem dX8_exchanges_97 : decode cX8_exchanges 97 = .ok (.iaload, 1) := by decide +kernel
theorem dX8_exchanges_98 : decode cX8_exchanges 98 = .ok (.iastore, 1) := by decide +kernel
theorem dX8_exchanges_99 : decode cX8_exchanges 99 = .ok (.aload_n 0, 1) := by decide +kernel
theorem dX8_exchanges_100 : decode cX8_exchanges 100 = .ok (.getfield 60, 3) := by decide +kernel
theorem dX8_exchanges_103 : decode cX8_exchanges 103 = .ok (.iload_n 2, 1) := by decide +kernel
theorem dX8_exchanges_104 : decode cX8_exchanges 104 = .ok (.iload_n 3, 1) := by decide +kernel
theorem dX8_exchanges_105 : decode cX8_exchanges 105 = .ok (.iastore, 1) := by decide +kernel
theorem dX8_exchanges_106 : decode cX8_exchanges 106 = .ok (.aload_n 0, 1) := by decide +kernel
theorem dX8_exchanges_107 : decode cX8_exchanges 107 = .ok (.getfield 63, 3) := by decide +kernel
theorem dX8_exchanges_110 : decode cX8_exchanges 110 = .ok (.iload_n 2, 1) := by decide +kernel
theorem dX8_exchanges_111 : decode cX8_exchanges 111 = .ok (.iload 4, 2) := by decide +kernel
theorem dX8_exchanges_113 : decode cX8_exchanges 113 = .ok (.iastore, 1) := by decide +kernel
theorem dX8_exchanges_114 : decode cX8_exchanges 114 = .ok (.aload_n 0, 1) := by decide +kernel
theorem dX8_exchanges_115 : decode cX8_exchanges 115 = .ok (.getfield 66, 3) := by decide +kernel
theorem dX8_exchanges_118 : decode cX8_exchanges 118 = .ok (.iload_n 2, 1) := by decide +kernel
theorem dX8_exchanges_119 : decode cX8_exchanges 119 = .ok (.iload 5, 2) := by decide +kernel
theorem dX8_exchanges_121 : decode cX8_exchanges 121 = .ok (.iastore, 1) := by decide +kernel
theorem dX8_exchanges_122 : decode cX8_exchanges 122 = .ok (.aload_n 0, 1) := by decide +kernel
theorem dX8_exchanges_123 : decode cX8_exchanges 123 = .ok (.getfield 69, 3) := by decide +kernel
theorem dX8_exchanges_126 : decode cX8_exchanges 126 = .ok (.iload_n 2, 1) := by decide +kernel
theorem dX8_exchanges_127 : decode cX8_exchanges 127 = .ok (.iload 6, 2) := by decide +kernel
theorem dX8_exchanges_129 : decode cX8_exchanges 129 = .ok (.iastore, 1) := by decide +kernel
theorem dX8_exchanges_130 : decode cX8_exchanges 130 = .ok (.aload_n 0, 1) := by decide +kernel
theorem dX8_exchanges_131 : decode cX8_exchanges 131 = .ok (.getfield 72, 3) := by decide +kernel
theorem dX8_exchanges_134 : decode cX8_exchanges 134 = .ok (.iload_n 2, 1) := by decide +kernel
theorem dX8_exchanges_135 : decode cX8_exchanges 135 = .ok (.iload 7, 2) := by decide +kernel
theorem dX8_exchanges_137 : decode cX8_exchanges 137 = .ok (.iastore, 1) := by decide +kernel
theorem dX8_exchanges_138 : decode cX8_exchanges 138 = .ok (.return_, 1) := by decide +kernel
set_option maxRecDepth 20000 in
theorem ggX8_keeps_X8_isBehind : GoodIn wsX8_keeps wsX8_isBehind := goodIn_r _ [22, 9, 11, 13, 17, 27, 28, 29, 30, 31, 32, 33, 34, 35, 36, 37, 38, 39, 40, 41, 42, 43, 44, 45, 46, 47, 48, 49, 50, 51, 52, 53, 54, 55, 56, 57, 58, 59, 60, 61, 62, 63, 64, 65, 66, 67, 68, 69, 70, 71, 72, 73] rfl (by decide +kernel)
set_option maxRecDepth 20000 in
theorem gX8_keeps_X8_isBehind : GoodIn wsX8_keeps (wsV RX8 172 RX8 yX8_isBehind wsX8_isBehind) := goodIn_app (goodIn_of _ (by decide +kernel)) ggX8_keeps_X8_isBehind
set_option maxRecDepth 20000 in
theorem ggX8_keeps_X8_exchanges : GoodIn wsX8_keeps wsX8_exchanges := goodIn_r _ [26, 9, 11, 13, 15, 17, 27, 28, 29, 30, 31, 32, 33, 34, 35, 36, 37, 38, 39, 40, 41, 42, 43, 44, 45, 46, 47, 48, 49, 50, 51, 52, 53, 54, 55, 56, 57, 58, 59, 60, 61, 62, 63, 64, 65, 66, 67, 68, 69, 70, 71, 72, 73] rfl (by decide +kernel)
set_option maxRecDepth 20000 in
theorem gX8_keeps_X8_exchanges : GoodIn wsX8_keeps (wsV RX8 176 RX8 yX8_exchanges wsX8_exchanges) := goodIn_app (goodIn_of _ (by decide +kernel)) ggX8_keeps_X8_exchanges
theorem dX8_keeps_0 : decode cX8_keeps 0 = .ok (.iconst 1, 1) := by decide +kernel
theorem dX8_keeps_1 : decode cX8_keeps 1 = .ok (.istore_n 1, 1) := by decide +kernel
theorem dX8_keeps_2 : decode cX8_keeps 2 = .ok (.iload_n 1, 1) := by decide +kernel
theorem dX8_keeps_3 : decode cX8_keeps 3 = .ok (.aload_n 0, 1) := by decide +kernel
theorem dX8_keeps_4 : decode cX8_keeps 4 = .ok (.getfield 159, 3) := by decide +kernel
theorem dX8_keeps_7 : decode cX8_keeps 7 = .ok (.if_icmp .ge 40, 3) := by decide +kernel
theorem dX8_keeps_10 : decode cX8_keeps 10 = .ok (.iload_n 1, 1) := by decide +kernel
theorem dX8_keeps_11 : decode cX8_keeps 11 = .ok (.istore_n 2, 1) := by decide +kernel
theorem dX8_keeps_12 : decode cX8_keeps 12 = .ok (.iload_n 2, 1) := by decide +kernel
theorem dX8_keeps_13 : decode cX8_keeps 13 = .ok (.ifCond .le 28, 3) := by decide +kernel
theorem dX8_keeps_16 : decode cX8_keeps 16 = .ok (.aload_n 0, 1) := by decide +kernel
theorem dX8_keeps_17 : decode cX8_keeps 17 = .ok (.iload_n 2, 1) := by decide +kernel
theorem dX8_keeps_18 : decode cX8_keeps 18 = .ok (.iconst 1, 1) := by decide +kernel
theorem dX8_keeps_19 : decode cX8_keeps 19 = .ok (.isub, 1) := by decide +kernel
theorem dX8_keeps_20 : decode cX8_keeps 20 = .ok (.iload_n 2, 1) := by decide +kernel
theorem dX8_keeps_21 : decode cX8_keeps 21 = .ok (.invokevirtual 172, 3) := by decide +kernel
theorem dX8_keeps_24 : decode cX8_keeps 24 = .ok (.ifCond .eq 17, 3) := by decide +kernel
theorem dX8_keeps_27 : decode cX8_keeps 27 = .ok (.aload_n 0, 1) := by decide +kernel
theorem dX8_keeps_28 : decode cX8_keeps 28 = .ok (.iload_n 2, 1) := by decide +kernel
theorem dX8_keeps_29 : decode cX8_keeps 29 = .ok (.iconst 1, 1) := by decide +kernel
theorem dX8_keeps_30 : decode cX8_keeps 30 = .ok (.isub, 1) := by decide +kernel
theorem dX8_keeps_31 : decode cX8_keeps 31 = .ok (.iload_n 2, 1) := by decide +kernel
theorem dX8_keeps_32 : decode cX8_keeps 32 = .ok (.invokevirtual 176, 3) := by decide +kernel
theorem dX8_keeps_35 : decode cX8_keeps 35 = .ok (.iinc 2 (-1), 3) := by decide +kernel
theorem dX8_keeps_38 : decode cX8_keeps 38 = .ok (.goto (-26), 3) := by decide +kernel
theorem dX8_keeps_41 : decode cX8_keeps 41 = .ok (.iinc 1 1, 3) := by decide +kernel
theorem dX8_keeps_44 : decode cX8_keeps 44 = .ok (.goto (-42), 3) := by decide +kernel
theorem dX8_keeps_47 : decode cX8_keeps 47 = .ok (.aload_n 0, 1) := by decide +kernel
theorem dX8_keeps_48 : decode cX8_keeps 48 = .ok (.getfield 128, 3) := by decide +kernel
theorem dX8_keeps_51 : decode cX8_keeps 51 = .ok (.istore_n 1, 1) := by decide +kernel
theorem dX8_keeps_52 : decode cX8_keeps 52 = .ok (.aload_n 0, 1) := by decide +kernel
theorem dX8_keeps_53 : decode cX8_keeps 53 = .ok (.getfield 13, 3) := by decide +kernel
theorem dX8_keeps_56 : decode cX8_keeps 56 = .ok (.iload_n 1, 1) := by decide +kernel
theorem dX8_keeps_57 : decode cX8_keeps 57 = .ok (.aload_n 0, 1) := by decide +kernel
theorem dX8_keeps_58 : decode cX8_keeps 58 = .ok (.getfield 152, 3) := by decide +kernel
theorem dX8_keeps_61 : decode cX8_keeps 61 = .ok (.iastore, 1) := by decide +kernel
theorem dX8_keeps_62 : decode cX8_keeps 62 = .ok (.aload_n 0, 1) := by decide +kernel
theorem dX8_keeps_63 : decode cX8_keeps 63 = .ok (.getfield 16, 3) := by decide +kernel
theorem dX8_keeps_66 : decode cX8_keeps 66 = .ok (.iload_n 1, 1) := by decide +kernel
theorem dX8_keeps_67 : decode cX8_keeps 67 = .ok (.aload_n 0, 1) := by decide +kernel
theorem dX8_keeps_68 : decode cX8_keeps 68 = .ok (.getfield 169, 3) := by decide +kernel
theorem dX8_keeps_71 : decode cX8_keeps 71 = .ok (.iastore, 1) := by decide +kernel
theorem dX8_keeps_72 : decode cX8_keeps 72 = .ok (.aload_n 0, 1) := by decide +kernel
theorem dX8_keeps_73 : decode cX8_keeps 73 = .ok (.getfield 19, 3) := by decide +kernel
theorem dX8_keeps_76 : decode cX8_keeps 76 = .ok (.iload_n 1, 1) := by decide +kernel
theorem dX8_keeps_77 : decode cX8_keeps 77 = .ok (.aload_n 0, 1) := by decide +kernel
theorem dX8_keeps_78 : decode cX8_keeps 78 = .ok (.getfield 159, 3) := by decide +kernel
theorem dX8_keeps_81 : decode cX8_keeps 81 = .ok (.iastore, 1) := by decide +kernel
theorem dX8_keeps_82 : decode cX8_keeps 82 = .ok (.iconst 0, 1) := by decide +kernel
theorem dX8_keeps_83 : decode cX8_keeps 83 = .ok (.istore_n 2, 1) := by decide +kernel
theorem dX8_keeps_84 : decode cX8_keeps 84 = .ok (.iload_n 2, 1) := by decide +kernel
theorem dX8_keeps_85 : decode cX8_keeps 85 = .ok (.aload_n 0, 1) := by decide +kernel
theorem dX8_keeps_86 : decode cX8_keeps 86 = .ok (.getfield 159, 3) := by decide +kernel
theorem dX8_keeps_89 : decode cX8_keeps 89 = .ok (.if_icmp .ge 99, 3) := by decide +kernel
theorem dX8_keeps_92 : decode cX8_keeps 92 = .ok (.aload_n 0, 1) := by decide +kernel
theorem dX8_keeps_93 : decode cX8_keeps 93 = .ok (.getfield 22, 3) := by decide +kernel
theorem dX8_keeps_96 : decode cX8_keeps 96 = .ok (.sipush 160, 3) := by decide +kernel
theorem dX8_keeps_99 : decode cX8_keeps 99 = .ok (.iload_n 1, 1) := by decide +kernel
theorem dX8_keeps_100 : decode cX8_keeps 100 = .ok (.imul, 1) := by decide +kernel
theorem dX8_keeps_101 : decode cX8_keeps 101 = .ok (.iload_n 2, 1) := by decide +kernel
theorem dX8_keeps_102 : decode cX8_keeps 102 = .ok (.iadd, 1) := by decide +kernel
theorem dX8_keeps_103 : decode cX8_keeps 103 = .ok (.aload_n 0, 1) := by decide +kernel
theorem dX8_keeps_104 : decode cX8_keeps 104 = .ok (.getfield 60, 3) := by decide +kernel
theorem dX8_keeps_107 : decode cX8_keeps 107 = .ok (.iload_n 2, 1) := by decide +kernel
theorem dX8_keeps_108 : decode cX8_keeps 108 = .ok (.iaload, 1) := by decide +kernel
theorem dX8_keeps_109 : decode cX8_keeps 109 = .ok (.iastore, 1) := by decide +kernel
theorem dX8_keeps_110 : decode cX8_keeps 110 = .ok (.aload_n 0, 1) := by decide +kernel
theorem dX8_keeps_111 : decode cX8_keeps 111 = .ok (.getfield 25, 3) := by decide +kernel
theorem dX8_keeps_114 : decode cX8_keeps 114 = .ok (.sipush 160, 3) := by decide +kernel
theorem dX8_keeps_117 : decode cX8_keeps 117 = .ok (.iload_n 1, 1) := by decide +kernel
theorem dX8_keeps_118 : decode cX8_keeps 118 = .ok (.imul, 1) := by decide +kernel
theorem dX8_keeps_119 : decode cX8_keeps 119 = .ok (.iload_n 2, 1) := by decide +kernel
theorem dX8_keeps_120 : decode cX8_keeps 120 = .ok (.iadd, 1) := by decide +kernel
theorem dX8_keeps_121 : decode cX8_keeps 121 = .ok (.aload_n 0, 1) := by decide +kernel
theorem dX8_keeps_122 : decode cX8_keeps 122 = .ok (.getfield 63, 3) := by decide +kernel
theorem dX8_keeps_125 : decode cX8_keeps 125 = .ok (.iload_n 2, 1) := by decide +kernel
theorem dX8_keeps_126 : decode cX8_keeps 126 = .ok (.iaload, 1) := by decide +kernel
theorem dX8_keeps_127 : decode cX8_keeps 127 = .ok (.iastore, 1) := by decide +kernel
theorem dX8_keeps_128 : decode cX8_keeps 128 = .ok (.aload_n 0, 1) := by decide +kernel
theorem dX8_keeps_129 : decode cX8_keeps 129 = .ok (.getfield 28, 3) := by decide +kernel
theorem dX8_keeps_132 : decode cX8_keeps 132 = .ok (.sipush 160, 3) := by decide +kernel
theorem dX8_keeps_135 : decode cX8_keeps 135 = .ok (.iload_n 1, 1) := by decide +kernel
theorem dX8_keeps_136 : decode cX8_keeps 136 = .ok (.imul, 1) := by decide +kernel
theorem dX8_keeps_137 : decode cX8_keeps 137 = .ok (.iload_n 2, 1) := by decide +kernel
theorem dX8_keeps_138 : decode cX8_keeps 138 = .ok (.iadd, 1) := by decide +kernel
theorem dX8_keeps_139 : decode cX8_keeps 139 = .ok (.aload_n 0, 1) := by decide +kernel
theorem dX8_keeps_140 : decode cX8_keeps 140 = .ok (.getfield 66, 3) := by decide +kernel
theorem dX8_keeps_143 : decode cX8_keeps 143 = .ok (.iload_n 2, 1) := by decide +kernel
theorem dX8_keeps_144 : decode cX8_keeps 144 = .ok (.iaload, 1) := by decide +kernel
theorem dX8_keeps_145 : decode cX8_keeps 145 = .ok (.iastore, 1) := by decide +kernel
theorem dX8_keeps_146 : decode cX8_keeps 146 = .ok (.aload_n 0, 1) := by decide +kernel
theorem dX8_keeps_147 : decode cX8_keeps 147 = .ok (.getfield 31, 3) := by decide +kernel
theorem dX8_keeps_150 : decode cX8_keeps 150 = .ok (.sipush 160, 3) := by decide +kernel
theorem dX8_keeps_153 : decode cX8_keeps 153 = .ok (.iload_n 1, 1) := by decide +kernel
theorem dX8_keeps_154 : decode cX8_keeps 154 = .ok (.imul, 1) := by decide +kernel
theorem dX8_keeps_155 : decode cX8_keeps 155 = .ok (.iload_n 2, 1) := by decide +kernel
theorem dX8_keeps_156 : decode cX8_keeps 156 = .ok (.iadd, 1) := by decide +kernel
theorem dX8_keeps_157 : decode cX8_keeps 157 = .ok (.aload_n 0, 1) := by decide +kernel
theorem dX8_keeps_158 : decode cX8_keeps 158 = .ok (.getfield 69, 3) := by decide +kernel
theorem dX8_keeps_161 : decode cX8_keeps 161 = .ok (.iload_n 2, 1) := by decide +kernel
theorem dX8_keeps_162 : decode cX8_keeps 162 = .ok (.iaload, 1) := by decide +kernel
theorem dX8_keeps_163 : decode cX8_keeps 163 = .ok (.iastore, 1) := by decide +kernel
theorem dX8_keeps_164 : decode cX8_keeps 164 = .ok (.aload_n 0, 1) := by decide +kernel
theorem dX8_keeps_165 : decode cX8_keeps 165 = .ok (.getfield 34, 3) := by decide +kernel
theorem dX8_keeps_168 : decode cX8_keeps 168 = .ok (.sipush 160, 3) := by decide +kernel
theorem dX8_keeps_171 : decode cX8_keeps 171 = .ok (.iload_n 1, 1) := by decide +kernel
theorem dX8_keeps_172 : decode cX8_keeps 172 = .ok (.imul, 1) := by decide +kernel
theorem dX8_keeps_173 : decode cX8_keeps 173 = .ok (.iload_n 2, 1) := by decide +kernel
theorem dX8_keeps_174 : decode cX8_keeps 174 = .ok (.iadd, 1) := by decide +kernel
theorem dX8_keeps_175 : decode cX8_keeps 175 = .ok (.aload_n 0, 1) := by decide +kernel
theorem dX8_keeps_176 : decode cX8_keeps 176 = .ok (.getfield 72, 3) := by decide +kernel
theorem dX8_keeps_179 : decode cX8_keeps 179 = .ok (.iload_n 2, 1) := by decide +kernel
theorem dX8_keeps_180 : decode cX8_keeps 180 = .ok (.iaload, 1) := by decide +kernel
theorem dX8_keeps_181 : decode cX8_keeps 181 = .ok (.iastore, 1) := by decide +kernel
theorem dX8_keeps_182 : decode cX8_keeps 182 = .ok (.iinc 2 1, 3) := by decide +kernel
theorem dX8_keeps_185 : decode cX8_keeps 185 = .ok (.goto (-101), 3) := by decide +kernel
theorem dX8_keeps_188 : decode cX8_keeps 188 = .ok (.aload_n 0, 1) := by decide +kernel
theorem dX8_keeps_189 : decode cX8_keeps 189 = .ok (.dup, 1) := by decide +kernel
theorem dX8_keeps_190 : decode cX8_keeps 190 = .ok (.getfield 128, 3) := by decide +kernel
theorem dX8_keeps_193 : decode cX8_keeps 193 = .ok (.iconst 1, 1) := by decide +kernel
theorem dX8_keeps_194 : decode cX8_keeps 194 = .ok (.iadd, 1) := by decide +kernel
theorem dX8_keeps_195 : decode cX8_keeps 195 = .ok (.putfield 128, 3) := by decide +kernel
theorem dX8_keeps_198 : decode cX8_keeps 198 = .ok (.iload_n 1, 1) := by decide +kernel
theorem dX8_keeps_199 : decode cX8_keeps 199 = .ok (.ireturn, 1) := by decide +kernel
theorem dX8_isThere_0 : decode cX8_isThere 0 = .ok (.aload_n 0, 1) := by decide +kernel
theorem dX8_isThere_1 : decode cX8_isThere 1 = .ok (.getfield 128, 3) := by decide +kernel
theorem dX8_isThere_4 : decode cX8_isThere 4 = .ok (.bipush 24, 2) := by decide +kernel
theorem dX8_isThere_6 : decode cX8_isThere 6 = .ok (.if_icmp .ge 7, 3) := by decide +kernel
theorem dX8_isThere_9 : decode cX8_isThere 9 = .ok (.iconst 1, 1) := by decide +kernel
theorem dX8_isThere_10 : decode cX8_isThere 10 = .ok (.goto 4, 3) := by decide +kernel
theorem dX8_isThere_13 : decode cX8_isThere 13 = .ok (.iconst 0, 1) := by decide +kernel
theorem dX8_isThere_14 : decode cX8_isThere 14 = .ok (.ireturn, 1) := by decide +kernel
theorem dX8_isEndOf_0 : decode cX8_isEndOf 0 = .ok (.aload_n 0, 1) := by decide +kernel
theorem dX8_isEndOf_1 : decode cX8_isEndOf 1 = .ok (.getfield 16, 3) := by decide +kernel
theorem dX8_isEndOf_4 : decode cX8_isEndOf 4 = .ok (.iload_n 1, 1) := by decide +kernel
theorem dX8_isEndOf_5 : decode cX8_isEndOf 5 = .ok (.iaload, 1) := by decide +kernel
theorem dX8_isEndOf_6 : decode cX8_isEndOf 6 = .ok (.iload_n 2, 1) := by decide +kernel
theorem dX8_isEndOf_7 : decode cX8_isEndOf 7 = .ok (.ishr, 1) := by decide +kernel
theorem dX8_isEndOf_8 : decode cX8_isEndOf 8 = .ok (.iconst 1, 1) := by decide +kernel
theorem dX8_isEndOf_9 : decode cX8_isEndOf 9 = .ok (.iand, 1) := by decide +kernel
theorem dX8_isEndOf_10 : decode cX8_isEndOf 10 = .ok (.iconst 1, 1) := by decide +kernel
theorem dX8_isEndOf_11 : decode cX8_isEndOf 11 = .ok (.if_icmp .ne 7, 3) := by decide +kernel
theorem dX8_isEndOf_14 : decode cX8_isEndOf 14 = .ok (.iconst 1, 1) := by decide +kernel
theorem dX8_isEndOf_15 : decode cX8_isEndOf 15 = .ok (.goto 4, 3) := by decide +kernel
theorem dX8_isEndOf_18 : decode cX8_isEndOf 18 = .ok (.iconst 0, 1) := by decide +kernel
theorem dX8_isEndOf_19 : decode cX8_isEndOf 19 = .ok (.ireturn, 1) := by decide +kernel
set_option maxRecDepth 20000 in
theorem ggX8_puts_X8_adds : GoodIn wsX8_puts wsX8_adds := goodIn_r _ [11, 12, 13, 14, 15, 16, 17, 18, 19, 20, 21, 22, 23, 24, 25, 26, 27, 28, 29, 30, 31, 32, 33, 34, 35, 36, 37, 38, 39, 40, 41, 42, 43, 44, 45, 46, 47, 48, 49, 50, 51, 52, 53, 54, 55, 56, 57, 58, 59, 60, 61] rfl (by decide +kernel)
set_option maxRecDepth 20000 in
theorem gX8_puts_X8_adds : GoodIn wsX8_puts (wsV RX8 180 RX8 yX8_adds wsX8_adds) := goodIn_app (goodIn_of _ (by decide +kernel)) ggX8_puts_X8_adds
theorem dX8_puts_0 : decode cX8_puts 0 = .ok (.sipush 160, 3) := by decide +kernel
theorem dX8_puts_3 : decode cX8_puts 3 = .ok (.iload_n 1, 1) := by decide +kernel
theorem dX8_puts_4 : decode cX8_puts 4 = .ok (.imul, 1) := by decide +kernel
theorem dX8_puts_5 : decode cX8_puts 5 = .ok (.istore_n 3, 1) := by decide +kernel
theorem dX8_puts_6 : decode cX8_puts 6 = .ok (.iload_n 3, 1) := by decide +kernel
theorem dX8_puts_7 : decode cX8_puts 7 = .ok (.sipush 160, 3) := by decide +kernel
theorem dX8_puts_10 : decode cX8_puts 10 = .ok (.iload_n 1, 1) := by decide +kernel
theorem dX8_puts_11 : decode cX8_puts 11 = .ok (.imul, 1) := by decide +kernel
theorem dX8_puts_12 : decode cX8_puts 12 = .ok (.aload_n 0, 1) := by decide +kernel
theorem dX8_puts_13 : decode cX8_puts 13 = .ok (.getfield 19, 3) := by decide +kernel
theorem dX8_puts_16 : decode cX8_puts 16 = .ok (.iload_n 1, 1) := by decide +kernel
theorem dX8_puts_17 : decode cX8_puts 17 = .ok (.iaload, 1) := by decide +kernel
theorem dX8_puts_18 : decode cX8_puts 18 = .ok (.iadd, 1) := by decide +kernel
theorem dX8_puts_19 : decode cX8_puts 19 = .ok (.if_icmp .ge 47, 3) := by decide +kernel
theorem dX8_puts_22 : decode cX8_puts 22 = .ok (.aload_n 0, 1) := by decide +kernel
theorem dX8_puts_23 : decode cX8_puts 23 = .ok (.iload_n 2, 1) := by decide +kernel
theorem dX8_puts_24 : decode cX8_puts 24 = .ok (.aload_n 0, 1) := by decide +kernel
theorem dX8_puts_25 : decode cX8_puts 25 = .ok (.getfield 22, 3) := by decide +kernel
theorem dX8_puts_28 : decode cX8_puts 28 = .ok (.iload_n 3, 1) := by decide +kernel
theorem dX8_puts_29 : decode cX8_puts 29 = .ok (.iaload, 1) := by decide +kernel
theorem dX8_puts_30 : decode cX8_puts 30 = .ok (.iadd, 1) := by decide +kernel
theorem dX8_puts_31 : decode cX8_puts 31 = .ok (.aload_n 0, 1) := by decide +kernel
theorem dX8_puts_32 : decode cX8_puts 32 = .ok (.getfield 25, 3) := by decide +kernel
theorem dX8_puts_35 : decode cX8_puts 35 = .ok (.iload_n 3, 1) := by decide +kernel
theorem dX8_puts_36 : decode cX8_puts 36 = .ok (.iaload, 1) := by decide +kernel
theorem dX8_puts_37 : decode cX8_puts 37 = .ok (.aload_n 0, 1) := by decide +kernel
theorem dX8_puts_38 : decode cX8_puts 38 = .ok (.getfield 28, 3) := by decide +kernel
theorem dX8_puts_41 : decode cX8_puts 41 = .ok (.iload_n 3, 1) := by decide +kernel
theorem dX8_puts_42 : decode cX8_puts 42 = .ok (.iaload, 1) := by decide +kernel
theorem dX8_puts_43 : decode cX8_puts 43 = .ok (.aload_n 0, 1) := by decide +kernel
theorem dX8_puts_44 : decode cX8_puts 44 = .ok (.getfield 31, 3) := by decide +kernel
theorem dX8_puts_47 : decode cX8_puts 47 = .ok (.iload_n 3, 1) := by decide +kernel
theorem dX8_puts_48 : decode cX8_puts 48 = .ok (.iaload, 1) := by decide +kernel
theorem dX8_puts_49 : decode cX8_puts 49 = .ok (.iload_n 2, 1) := by decide +kernel
theorem dX8_puts_50 : decode cX8_puts 50 = .ok (.aload_n 0, 1) := by decide +kernel
theorem dX8_puts_51 : decode cX8_puts 51 = .ok (.getfield 34, 3) := by decide +kernel
theorem dX8_puts_54 : decode cX8_puts 54 = .ok (.iload_n 3, 1) := by decide +kernel
theorem dX8_puts_55 : decode cX8_puts 55 = .ok (.iaload, 1) := by decide +kernel
theorem dX8_puts_56 : decode cX8_puts 56 = .ok (.iadd, 1) := by decide +kernel
theorem dX8_puts_57 : decode cX8_puts 57 = .ok (.invokevirtual 180, 3) := by decide +kernel
theorem dX8_puts_60 : decode cX8_puts 60 = .ok (.iinc 3 1, 3) := by decide +kernel
theorem dX8_puts_63 : decode cX8_puts 63 = .ok (.goto (-57), 3) := by decide +kernel
theorem dX8_puts_66 : decode cX8_puts 66 = .ok (.return_, 1) := by decide +kernel
set_option maxRecDepth 20000 in
theorem ggX8_pair_X8_isIn : GoodIn wsX8_pair wsX8_isIn := goodIn_r _ [5] rfl (by decide +kernel)
set_option maxRecDepth 20000 in
theorem gX8_pair_X8_isIn : GoodIn wsX8_pair (va_wsS RX8 131 yX8_isIn wsX8_isIn) := goodIn_app (goodIn_of _ (by decide +kernel)) ggX8_pair_X8_isIn
set_option maxRecDepth 20000 in
theorem ggX8_pair_X8_isThere : GoodIn wsX8_pair wsX8_isThere := goodIn_r _ [9, 10, 81, 82, 83, 84, 85, 86, 87, 88, 89, 90, 91, 92, 93, 94, 95, 96, 97, 98, 99, 100, 101, 102, 103, 104, 105, 106, 107, 108, 109, 110, 111, 112, 113, 114, 115, 116, 117, 118, 119, 120, 121, 122, 123, 124, 125, 126, 127] rfl (by decide +kernel)
set_option maxRecDepth 20000 in
theorem gX8_pair_X8_isThere : GoodIn wsX8_pair (wsV RX8 184 RX8 yX8_isThere wsX8_isThere) := goodIn_app (goodIn_of _ (by decide +kernel)) ggX8_pair_X8_isThere
set_option maxRecDepth 20000 in
theorem ggX8_pair_X8_isFine : GoodIn wsX8_pair wsX8_isFine := goodIn_r _ [14, 15, 81, 82, 83, 84, 85, 86, 87, 88, 89, 90, 91, 92, 93, 94, 95, 96, 97, 98, 99, 100, 101, 102, 103, 104, 105, 106, 107, 108, 109, 110, 111, 112, 113, 114, 115, 116, 117, 118, 119, 120, 121, 122, 123, 124, 125, 126, 127] rfl (by decide +kernel)
set_option maxRecDepth 20000 in
theorem gX8_pair_X8_isFine : GoodIn wsX8_pair (wsV RX8 138 RX8 yX8_isFine wsX8_isFine) := goodIn_app (goodIn_of _ (by decide +kernel)) ggX8_pair_X8_isFine
set_option maxRecDepth 20000 in
theorem ggX8_pair_X8_begins : GoodIn wsX8_pair wsX8_begins := goodIn_r _ [19, 20, 1, 81, 82, 83, 84, 85, 86, 87, 88, 89, 90, 91, 92, 93, 94, 95, 96, 97, 98, 99, 100, 101, 102, 103, 104, 105, 106, 107, 108, 109, 110, 111, 112, 113, 114, 115, 116, 117, 118, 119, 120, 121, 122, 123, 124, 125, 126, 127] rfl (by decide +kernel)
set_option maxRecDepth 20000 in
theorem gX8_pair_X8_begins : GoodIn wsX8_pair (wsV RX8 188 RX8 yX8_begins wsX8_begins) := goodIn_app (goodIn_of _ (by decide +kernel)) ggX8_pair_X8_begins
set_option maxRecDepth 20000 in
theorem ggX8_pair_X8_adds : GoodIn wsX8_pair wsX8_adds := goodIn_r _ [24, 25, 20, 26, 81, 82, 83, 84, 85, 86, 87, 88, 89, 90, 91, 92, 93, 94, 95, 96, 97, 98, 99, 100, 101, 102, 103, 104, 105, 106, 107, 108, 109, 110, 111, 112, 113, 114, 115, 116, 117, 118, 119, 120, 121, 122, 123, 124, 125, 126, 127] rfl (by decide +kernel)
set_option maxRecDepth 20000 in
theorem gX8_pair_X8_adds : GoodIn wsX8_pair (wsV RX8 180 RX8 yX8_adds wsX8_adds) := goodIn_app (goodIn_of _ (by decide +kernel)) ggX8_pair_X8_adds
set_option maxRecDepth 20000 in
theorem ggX8_pair_X8_trims : GoodIn wsX8_pair wsX8_trims := goodIn_r _ [30, 31, 32, 33, 34, 35, 25, 36, 37, 38, 39, 26, 40, 41, 1, 42, 43, 44, 4, 45, 46, 20, 47, 48, 49, 50, 51, 52, 53, 54, 55, 56, 57, 58, 59, 60, 81, 82, 83, 84, 85, 86, 87, 88, 89, 90, 91, 92, 93, 94, 95, 96, 97, 98, 99, 100, 101, 102, 103, 104, 105, 106, 107, 108, 109, 110, 111, 112, 113, 114, 115, 116, 117, 118, 119, 120, 121, 122, 123, 124, 125, 126, 127] rfl (by decide +kernel)
set_option maxRecDepth 20000 in
theorem gX8_pair_X8_trims : GoodIn wsX8_pair (wsV RX8 191 RX8 yX8_trims wsX8_trims) := goodIn_app (goodIn_of _ (by decide +kernel)) ggX8_pair_X8_trims
set_option maxRecDepth 20000 in
theorem ggX8_pair_X8_keeps : GoodIn wsX8_pair wsX8_keeps := goodIn_r _ [64, 33, 10, 65, 32, 66, 41, 67, 68, 36, 69, 37, 70, 38, 71, 39, 72, 40, 73, 74, 75, 4, 76, 77, 78, 79, 80, 81, 82, 83, 84, 85, 86, 87, 88, 89, 90, 91, 92, 93, 94, 95, 96, 97, 98, 99, 100, 101, 102, 103, 104, 105, 106, 107, 108, 109, 110, 111, 112, 113, 114, 115, 116, 117, 118, 119, 120, 121, 122, 123, 124, 125, 126, 127] rfl (by decide +kernel)
set_option maxRecDepth 20000 in
theorem gX8_pair_X8_keeps : GoodIn wsX8_pair (wsV RX8 194 RX8 yX8_keeps wsX8_keeps) := goodIn_app (goodIn_of _ (by decide +kernel)) ggX8_pair_X8_keeps
theorem dX8_pair_0 : decode cX8_pair 0 = .ok (.iload_n 1, 1) := by decide +kernel
theorem dX8_pair_1 : decode cX8_pair 1 = .ok (.iconst 0, 1) := by decide +kernel
theorem dX8_pair_2 : decode cX8_pair 2 = .ok (.bipush 8, 2) := by decide +kernel
theorem dX8_pair_4 : decode cX8_pair 4 = .ok (.invokestatic 131, 3) := by decide +kernel
theorem dX8_pair_7 : decode cX8_pair 7 = .ok (.ifCond .eq 27, 3) := by decide +kernel
theorem dX8_pair_10 : decode cX8_pair 10 = .ok (.iload_n 2, 1) := by decide +kernel
theorem dX8_pair_11 : decode cX8_pair 11 = .ok (.iconst 0, 1) := by decide +kernel
theorem dX8_pair_12 : decode cX8_pair 12 = .ok (.bipush 8, 2) := by decide +kernel
theorem dX8_pair_14 : decode cX8_pair 14 = .ok (.invokestatic 131, 3) := by decide +kernel
theorem dX8_pair_17 : decode cX8_pair 17 = .ok (.ifCond .eq 17, 3) := by decide +kernel
theorem dX8_pair_20 : decode cX8_pair 20 = .ok (.iload_n 3, 1) := by decide +kernel
theorem dX8_pair_21 : decode cX8_pair 21 = .ok (.iconst 0, 1) := by decide +kernel
theorem dX8_pair_22 : decode cX8_pair 22 = .ok (.bipush 100, 2) := by decide +kernel
theorem dX8_pair_24 : decode cX8_pair 24 = .ok (.invokestatic 131, 3) := by decide +kernel
theorem dX8_pair_27 : decode cX8_pair 27 = .ok (.ifCond .eq 7, 3) := by decide +kernel
theorem dX8_pair_30 : decode cX8_pair 30 = .ok (.iconst 1, 1) := by decide +kernel
theorem dX8_pair_31 : decode cX8_pair 31 = .ok (.goto 4, 3) := by decide +kernel
theorem dX8_pair_34 : decode cX8_pair 34 = .ok (.iconst 0, 1) := by decide +kernel
theorem dX8_pair_35 : decode cX8_pair 35 = .ok (.istore 4, 2) := by decide +kernel
theorem dX8_pair_37 : decode cX8_pair 37 = .ok (.aload_n 0, 1) := by decide +kernel
theorem dX8_pair_38 : decode cX8_pair 38 = .ok (.iload 4, 2) := by decide +kernel
theorem dX8_pair_40 : decode cX8_pair 40 = .ok (.ifCond .ne 7, 3) := by decide +kernel
theorem dX8_pair_43 : decode cX8_pair 43 = .ok (.iconst 1, 1) := by decide +kernel
theorem dX8_pair_44 : decode cX8_pair 44 = .ok (.goto 15, 3) := by decide +kernel
theorem dX8_pair_47 : decode cX8_pair 47 = .ok (.aload_n 0, 1) := by decide +kernel
theorem dX8_pair_48 : decode cX8_pair 48 = .ok (.invokevirtual 184, 3) := by decide +kernel
theorem dX8_pair_51 : decode cX8_pair 51 = .ok (.ifCond .ne 7, 3) := by decide +kernel
theorem dX8_pair_54 : decode cX8_pair 54 = .ok (.iconst 2, 1) := by decide +kernel
theorem dX8_pair_55 : decode cX8_pair 55 = .ok (.goto 4, 3) := by decide +kernel
theorem dX8_pair_58 : decode cX8_pair 58 = .ok (.iconst 0, 1) := by decide +kernel
theorem dX8_pair_59 : decode cX8_pair 59 = .ok (.invokevirtual 138, 3) := by decide +kernel
theorem dX8_pair_62 : decode cX8_pair 62 = .ok (.ifCond .ne 5, 3) := by decide +kernel
theorem dX8_pair_65 : decode cX8_pair 65 = .ok (.iconst 0, 1) := by decide +kernel
theorem dX8_pair_66 : decode cX8_pair 66 = .ok (.ireturn, 1) := by decide +kernel
theorem dX8_pair_67 : decode cX8_pair 67 = .ok (.aload_n 0, 1) := by decide +kernel
theorem dX8_pair_68 : decode cX8_pair 68 = .ok (.invokevirtual 188, 3) := by decide +kernel
theorem dX8_pair_71 : decode cX8_pair 71 = .ok (.aload_n 0, 1) := by decide +kernel
theorem dX8_pair_72 : decode cX8_pair 72 = .ok (.iconst 0, 1) := by decide +kernel
theorem dX8_pair_73 : decode cX8_pair 73 = .ok (.iload_n 1, 1) := by decide +kernel
theorem dX8_pair_74 : decode cX8_pair 74 = .ok (.iload_n 2, 1) := by decide +kernel
theorem dX8_pair_75 : decode cX8_pair 75 = .ok (.iload_n 3, 1) := by decide +kernel
theorem dX8_pair_76 : decode cX8_pair 76 = .ok (.iconst 1, 1) := by decide +kernel
theorem dX8_pair_77 : decode cX8_pair 77 = .ok (.invokevirtual 180, 3) := by decide +kernel
theorem dX8_pair_80 : decode cX8_pair 80 = .ok (.aload_n 0, 1) := by decide +kernel
theorem dX8_pair_81 : decode cX8_pair 81 = .ok (.getfield 44, 3) := by decide +kernel
theorem dX8_pair_84 : decode cX8_pair 84 = .ok (.iconst 1, 1) := by decide +kernel
theorem dX8_pair_85 : decode cX8_pair 85 = .ok (.iconst 1, 1) := by decide +kernel
theorem dX8_pair_86 : decode cX8_pair 86 = .ok (.bastore, 1) := by decide +kernel
theorem dX8_pair_87 : decode cX8_pair 87 = .ok (.aload_n 0, 1) := by decide +kernel
theorem dX8_pair_88 : decode cX8_pair 88 = .ok (.iconst 0, 1) := by decide +kernel
theorem dX8_pair_89 : decode cX8_pair 89 = .ok (.invokevirtual 191, 3) := by decide +kernel
theorem dX8_pair_92 : decode cX8_pair 92 = .ok (.ifCond .eq 10, 3) := by decide +kernel
theorem dX8_pair_95 : decode cX8_pair 95 = .ok (.aload_n 0, 1) := by decide +kernel
theorem dX8_pair_96 : decode cX8_pair 96 = .ok (.invokevirtual 194, 3) := by decide +kernel
theorem dX8_pair_99 : decode cX8_pair 99 = .ok (.goto 4, 3) := by decide +kernel
theorem dX8_pair_102 : decode cX8_pair 102 = .ok (.iconst 0, 1) := by decide +kernel
theorem dX8_pair_103 : decode cX8_pair 103 = .ok (.ireturn, 1) := by decide +kernel
set_option maxRecDepth 20000 in
theorem ggX8_word_X8_isThere : GoodIn wsX8_word wsX8_isThere := goodIn_r _ [8, 9, 80, 81, 82, 83, 84, 85, 86, 87, 88, 89, 90, 91, 92, 93, 94, 95, 96, 97, 98, 99, 100, 101, 102, 103, 104, 105, 106, 107, 108, 109, 110, 111, 112, 113, 114, 115, 116, 117, 118, 119, 120, 121, 122, 123, 124, 125, 126] rfl (by decide +kernel)
set_option maxRecDepth 20000 in
theorem gX8_word_X8_isThere : GoodIn wsX8_word (wsV RX8 184 RX8 yX8_isThere wsX8_isThere) := goodIn_app (goodIn_of _ (by decide +kernel)) ggX8_word_X8_isThere
set_option maxRecDepth 20000 in
theorem ggX8_word_X8_isFine : GoodIn wsX8_word wsX8_isFine := goodIn_r _ [13, 14, 80, 81, 82, 83, 84, 85, 86, 87, 88, 89, 90, 91, 92, 93, 94, 95, 96, 97, 98, 99, 100, 101, 102, 103, 104, 105, 106, 107, 108, 109, 110, 111, 112, 113, 114, 115, 116, 117, 118, 119, 120, 121, 122, 123, 124, 125, 126] rfl (by decide +kernel)
set_option maxRecDepth 20000 in
theorem gX8_word_X8_isFine : GoodIn wsX8_word (wsV RX8 138 RX8 yX8_isFine wsX8_isFine) := goodIn_app (goodIn_of _ (by decide +kernel)) ggX8_word_X8_isFine
set_option maxRecDepth 20000 in
theorem ggX8_word_X8_begins : GoodIn wsX8_word wsX8_begins := goodIn_r _ [18, 19, 3, 80, 81, 82, 83, 84, 85, 86, 87, 88, 89, 90, 91, 92, 93, 94, 95, 96, 97, 98, 99, 100, 101, 102, 103, 104, 105, 106, 107, 108, 109, 110, 111, 112, 113, 114, 115, 116, 117, 118, 119, 120, 121, 122, 123, 124, 125, 126] rfl (by decide +kernel)
set_option maxRecDepth 20000 in
theorem gX8_word_X8_begins : GoodIn wsX8_word (wsV RX8 188 RX8 yX8_begins wsX8_begins) := goodIn_app (goodIn_of _ (by decide +kernel)) ggX8_word_X8_begins
set_option maxRecDepth 20000 in
theorem ggX8_word_X8_adds : GoodIn wsX8_word wsX8_adds := goodIn_r _ [23, 24, 19, 25, 80, 81, 82, 83, 84, 85, 86, 87, 88, 89, 90, 91, 92, 93, 94, 95, 96, 97, 98, 99, 100, 101, 102, 103, 104, 105, 106, 107, 108, 109, 110, 111, 112, 113, 114, 115, 116, 117, 118, 119, 120, 121, 122, 123, 124, 125, 126] rfl (by decide +kernel)
set_option maxRecDepth 20000 in
theorem gX8_word_X8_adds : GoodIn wsX8_word (wsV RX8 180 RX8 yX8_adds wsX8_adds) := goodIn_app (goodIn_of _ (by decide +kernel)) ggX8_word_X8_adds
set_option maxRecDepth 20000 in
theorem ggX8_word_X8_trims : GoodIn wsX8_word wsX8_trims := goodIn_r _ [29, 30, 31, 32, 33, 34, 24, 35, 36, 37, 38, 25, 39, 40, 3, 41, 42, 43, 7, 44, 45, 19, 46, 47, 48, 49, 50, 51, 52, 53, 54, 55, 56, 57, 58, 59, 80, 81, 82, 83, 84, 85, 86, 87, 88, 89, 90, 91, 92, 93, 94, 95, 96, 97, 98, 99, 100, 101, 102, 103, 104, 105, 106, 107, 108, 109, 110, 111, 112, 113, 114, 115, 116, 117, 118, 119, 120, 121, 122, 123, 124, 125, 126] rfl (by decide +kernel)
set_option maxRecDepth 20000 in
theorem gX8_word_X8_trims : GoodIn wsX8_word (wsV RX8 191 RX8 yX8_trims wsX8_trims) := goodIn_app (goodIn_of _ (by decide +kernel)) ggX8_word_X8_trims
set_option maxRecDepth 20000 in
theorem ggX8_word_X8_keeps : GoodIn wsX8_word wsX8_keeps := goodIn_r _ [63, 32, 9, 64, 31, 65, 40, 66, 67, 35, 68, 36, 69, 37, 70, 38, 71, 39, 72, 73, 74, 7, 75, 76, 77, 78, 79, 80, 81, 82, 83, 84, 85, 86, 87, 88, 89, 90, 91, 92, 93, 94, 95, 96, 97, 98, 99, 100, 101, 102, 103, 104, 105, 106, 107, 108, 109, 110, 111, 112, 113, 114, 115, 116, 117, 118, 119, 120, 121, 122, 123, 124, 125, 126] rfl (by decide +kernel)
set_option maxRecDepth 20000 in
theorem gX8_word_X8_keeps : GoodIn wsX8_word (wsV RX8 194 RX8 yX8_keeps wsX8_keeps) := goodIn_app (goodIn_of _ (by decide +kernel)) ggX8_word_X8_keeps
theorem dX8_word_0 : decode cX8_word 0 = .ok (.aload_n 0, 1) := by decide +kernel
theorem dX8_word_1 : decode cX8_word 1 = .ok (.aload_n 0, 1) := by decide +kernel
theorem dX8_word_2 : decode cX8_word 2 = .ok (.invokevirtual 184, 3) := by decide +kernel
theorem dX8_word_5 : decode cX8_word 5 = .ok (.ifCond .eq 7, 3) := by decide +kernel
theorem dX8_word_8 : decode cX8_word 8 = .ok (.iconst 0, 1) := by decide +kernel
theorem dX8_word_9 : decode cX8_word 9 = .ok (.goto 4, 3) := by decide +kernel
theorem dX8_word_12 : decode cX8_word 12 = .ok (.iconst 1, 1) := by decide +kernel
theorem dX8_word_13 : decode cX8_word 13 = .ok (.invokevirtual 138, 3) := by decide +kernel
theorem dX8_word_16 : decode cX8_word 16 = .ok (.ifCond .ne 5, 3) := by decide +kernel
theorem dX8_word_19 : decode cX8_word 19 = .ok (.iconst 0, 1) := by decide +kernel
theorem dX8_word_20 : decode cX8_word 20 = .ok (.ireturn, 1) := by decide +kernel
theorem dX8_word_21 : decode cX8_word 21 = .ok (.aload_n 0, 1) := by decide +kernel
theorem dX8_word_22 : decode cX8_word 22 = .ok (.invokevirtual 188, 3) := by decide +kernel
theorem dX8_word_25 : decode cX8_word 25 = .ok (.iconst 0, 1) := by decide +kernel
theorem dX8_word_26 : decode cX8_word 26 = .ok (.istore_n 1, 1) := by decide +kernel
theorem dX8_word_27 : decode cX8_word 27 = .ok (.iload_n 1, 1) := by decide +kernel
theorem dX8_word_28 : decode cX8_word 28 = .ok (.aload_n 0, 1) := by decide +kernel
theorem dX8_word_29 : decode cX8_word 29 = .ok (.getfield 135, 3) := by decide +kernel
theorem dX8_word_32 : decode cX8_word 32 = .ok (.if_icmp .ge 30, 3) := by decide +kernel
theorem dX8_word_35 : decode cX8_word 35 = .ok (.aload_n 0, 1) := by decide +kernel
theorem dX8_word_36 : decode cX8_word 36 = .ok (.iload_n 1, 1) := by decide +kernel
theorem dX8_word_37 : decode cX8_word 37 = .ok (.aload_n 0, 1) := by decide +kernel
theorem dX8_word_38 : decode cX8_word 38 = .ok (.getfield 7, 3) := by decide +kernel
theorem dX8_word_41 : decode cX8_word 41 = .ok (.iload_n 1, 1) := by decide +kernel
theorem dX8_word_42 : decode cX8_word 42 = .ok (.iaload, 1) := by decide +kernel
theorem dX8_word_43 : decode cX8_word 43 = .ok (.aload_n 0, 1) := by decide +kernel
theorem dX8_word_44 : decode cX8_word 44 = .ok (.getfield 7, 3) := by decide +kernel
theorem dX8_word_47 : decode cX8_word 47 = .ok (.iload_n 1, 1) := by decide +kernel
theorem dX8_word_48 : decode cX8_word 48 = .ok (.iaload, 1) := by decide +kernel
theorem dX8_word_49 : decode cX8_word 49 = .ok (.iconst 0, 1) := by decide +kernel
theorem dX8_word_50 : decode cX8_word 50 = .ok (.iload_n 1, 1) := by decide +kernel
theorem dX8_word_51 : decode cX8_word 51 = .ok (.iconst 1, 1) := by decide +kernel
theorem dX8_word_52 : decode cX8_word 52 = .ok (.iadd, 1) := by decide +kernel
theorem dX8_word_53 : decode cX8_word 53 = .ok (.invokevirtual 180, 3) := by decide +kernel
theorem dX8_word_56 : decode cX8_word 56 = .ok (.iinc 1 1, 3) := by decide +kernel
theorem dX8_word_59 : decode cX8_word 59 = .ok (.goto (-32), 3) := by decide +kernel
theorem dX8_word_62 : decode cX8_word 62 = .ok (.aload_n 0, 1) := by decide +kernel
theorem dX8_word_63 : decode cX8_word 63 = .ok (.getfield 44, 3) := by decide +kernel
theorem dX8_word_66 : decode cX8_word 66 = .ok (.aload_n 0, 1) := by decide +kernel
theorem dX8_word_67 : decode cX8_word 67 = .ok (.getfield 135, 3) := by decide +kernel
theorem dX8_word_70 : decode cX8_word 70 = .ok (.iconst 1, 1) := by decide +kernel
theorem dX8_word_71 : decode cX8_word 71 = .ok (.bastore, 1) := by decide +kernel
theorem dX8_word_72 : decode cX8_word 72 = .ok (.aload_n 0, 1) := by decide +kernel
theorem dX8_word_73 : decode cX8_word 73 = .ok (.iconst 0, 1) := by decide +kernel
theorem dX8_word_74 : decode cX8_word 74 = .ok (.invokevirtual 191, 3) := by decide +kernel
theorem dX8_word_77 : decode cX8_word 77 = .ok (.ifCond .eq 10, 3) := by decide +kernel
theorem dX8_word_80 : decode cX8_word 80 = .ok (.aload_n 0, 1) := by decide +kernel
theorem dX8_word_81 : decode cX8_word 81 = .ok (.invokevirtual 194, 3) := by decide +kernel
theorem dX8_word_84 : decode cX8_word 84 = .ok (.goto 4, 3) := by decide +kernel
theorem dX8_word_87 : decode cX8_word 87 = .ok (.iconst 0, 1) := by decide +kernel
theorem dX8_word_88 : decode cX8_word 88 = .ok (.ireturn, 1) := by decide +kernel
set_option maxRecDepth 20000 in
theorem ggX8_any_X8_isThere : GoodIn wsX8_any wsX8_isThere := goodIn_r _ [6, 7, 78, 79, 80, 81, 82, 83, 84, 85, 86, 87, 88, 89, 90, 91, 92, 93, 94, 95, 96, 97, 98, 99, 100, 101, 102, 103, 104, 105, 106, 107, 108, 109, 110, 111, 112, 113, 114, 115, 116, 117, 118, 119, 120, 121, 122, 123, 124] rfl (by decide +kernel)
set_option maxRecDepth 20000 in
theorem gX8_any_X8_isThere : GoodIn wsX8_any (wsV RX8 184 RX8 yX8_isThere wsX8_isThere) := goodIn_app (goodIn_of _ (by decide +kernel)) ggX8_any_X8_isThere
set_option maxRecDepth 20000 in
theorem ggX8_any_X8_isFine : GoodIn wsX8_any wsX8_isFine := goodIn_r _ [11, 12, 78, 79, 80, 81, 82, 83, 84, 85, 86, 87, 88, 89, 90, 91, 92, 93, 94, 95, 96, 97, 98, 99, 100, 101, 102, 103, 104, 105, 106, 107, 108, 109, 110, 111, 112, 113, 114, 115, 116, 117, 118, 119, 120, 121, 122, 123, 124] rfl (by decide +kernel)
set_option maxRecDepth 20000 in
theorem gX8_any_X8_isFine : GoodIn wsX8_any (wsV RX8 138 RX8 yX8_isFine wsX8_isFine) := goodIn_app (goodIn_of _ (by decide +kernel)) ggX8_any_X8_isFine
set_option maxRecDepth 20000 in
theorem ggX8_any_X8_begins : GoodIn wsX8_any wsX8_begins := goodIn_r _ [16, 17, 1, 78, 79, 80, 81, 82, 83, 84, 85, 86, 87, 88, 89, 90, 91, 92, 93, 94, 95, 96, 97, 98, 99, 100, 101, 102, 103, 104, 105, 106, 107, 108, 109, 110, 111, 112, 113, 114, 115, 116, 117, 118, 119, 120, 121, 122, 123, 124] rfl (by decide +kernel)
set_option maxRecDepth 20000 in
theorem gX8_any_X8_begins : GoodIn wsX8_any (wsV RX8 188 RX8 yX8_begins wsX8_begins) := goodIn_app (goodIn_of _ (by decide +kernel)) ggX8_any_X8_begins
set_option maxRecDepth 20000 in
theorem ggX8_any_X8_adds : GoodIn wsX8_any wsX8_adds := goodIn_r _ [21, 22, 17, 23, 78, 79, 80, 81, 82, 83, 84, 85, 86, 87, 88, 89, 90, 91, 92, 93, 94, 95, 96, 97, 98, 99, 100, 101, 102, 103, 104, 105, 106, 107, 108, 109, 110, 111, 112, 113, 114, 115, 116, 117, 118, 119, 120, 121, 122, 123, 124] rfl (by decide +kernel)
set_option maxRecDepth 20000 in
theorem gX8_any_X8_adds : GoodIn wsX8_any (wsV RX8 180 RX8 yX8_adds wsX8_adds) := goodIn_app (goodIn_of _ (by decide +kernel)) ggX8_any_X8_adds
set_option maxRecDepth 20000 in
theorem ggX8_any_X8_trims : GoodIn wsX8_any wsX8_trims := goodIn_r _ [27, 28, 29, 30, 31, 32, 22, 33, 34, 35, 36, 23, 37, 38, 1, 39, 40, 41, 5, 42, 43, 17, 44, 45, 46, 47, 48, 49, 50, 51, 52, 53, 54, 55, 56, 57, 78, 79, 80, 81, 82, 83, 84, 85, 86, 87, 88, 89, 90, 91, 92, 93, 94, 95, 96, 97, 98, 99, 100, 101, 102, 103, 104, 105, 106, 107, 108, 109, 110, 111, 112, 113, 114, 115, 116, 117, 118, 119, 120, 121, 122, 123, 124] rfl (by decide +kernel)
set_option maxRecDepth 20000 in
theorem gX8_any_X8_trims : GoodIn wsX8_any (wsV RX8 191 RX8 yX8_trims wsX8_trims) := goodIn_app (goodIn_of _ (by decide +kernel)) ggX8_any_X8_trims
set_option maxRecDepth 20000 in
theorem ggX8_any_X8_keeps : GoodIn wsX8_any wsX8_keeps := goodIn_r _ [61, 30, 7, 62, 29, 63, 38, 64, 65, 33, 66, 34, 67, 35, 68, 36, 69, 37, 70, 71, 72, 5, 73, 74, 75, 76, 77, 78, 79, 80, 81, 82, 83, 84, 85, 86, 87, 88, 89, 90, 91, 92, 93, 94, 95, 96, 97, 98, 99, 100, 101, 102, 103, 104, 105, 106, 107, 108, 109, 110, 111, 112, 113, 114, 115, 116, 117, 118, 119, 120, 121, 122, 123, 124] rfl (by decide +kernel)
set_option maxRecDepth 20000 in
theorem gX8_any_X8_keeps : GoodIn wsX8_any (wsV RX8 194 RX8 yX8_keeps wsX8_keeps) := goodIn_app (goodIn_of _ (by decide +kernel)) ggX8_any_X8_keeps
theorem dX8_any_0 : decode cX8_any 0 = .ok (.aload_n 0, 1) := by decide +kernel
theorem dX8_any_1 : decode cX8_any 1 = .ok (.aload_n 0, 1) := by decide +kernel
theorem dX8_any_2 : decode cX8_any 2 = .ok (.invokevirtual 184, 3) := by decide +kernel
theorem dX8_any_5 : decode cX8_any 5 = .ok (.ifCond .eq 7, 3) := by decide +kernel
theorem dX8_any_8 : decode cX8_any 8 = .ok (.iconst 0, 1) := by decide +kernel
theorem dX8_any_9 : decode cX8_any 9 = .ok (.goto 4, 3) := by decide +kernel
theorem dX8_any_12 : decode cX8_any 12 = .ok (.iconst 1, 1) := by decide +kernel
theorem dX8_any_13 : decode cX8_any 13 = .ok (.invokevirtual 138, 3) := by decide +kernel
theorem dX8_any_16 : decode cX8_any 16 = .ok (.ifCond .ne 5, 3) := by decide +kernel
theorem dX8_any_19 : decode cX8_any 19 = .ok (.iconst 0, 1) := by decide +kernel
theorem dX8_any_20 : decode cX8_any 20 = .ok (.ireturn, 1) := by decide +kernel
theorem dX8_any_21 : decode cX8_any 21 = .ok (.aload_n 0, 1) := by decide +kernel
theorem dX8_any_22 : decode cX8_any 22 = .ok (.invokevirtual 188, 3) := by decide +kernel
theorem dX8_any_25 : decode cX8_any 25 = .ok (.iconst 0, 1) := by decide +kernel
theorem dX8_any_26 : decode cX8_any 26 = .ok (.istore_n 1, 1) := by decide +kernel
theorem dX8_any_27 : decode cX8_any 27 = .ok (.iload_n 1, 1) := by decide +kernel
theorem dX8_any_28 : decode cX8_any 28 = .ok (.bipush 8, 2) := by decide +kernel
theorem dX8_any_30 : decode cX8_any 30 = .ok (.if_icmp .ge 18, 3) := by decide +kernel
theorem dX8_any_33 : decode cX8_any 33 = .ok (.aload_n 0, 1) := by decide +kernel
theorem dX8_any_34 : decode cX8_any 34 = .ok (.iconst 0, 1) := by decide +kernel
theorem dX8_any_35 : decode cX8_any 35 = .ok (.iload_n 1, 1) := by decide +kernel
theorem dX8_any_36 : decode cX8_any 36 = .ok (.iload_n 1, 1) := by decide +kernel
theorem dX8_any_37 : decode cX8_any 37 = .ok (.iconst 0, 1) := by decide +kernel
theorem dX8_any_38 : decode cX8_any 38 = .ok (.iconst 1, 1) := by decide +kernel
theorem dX8_any_39 : decode cX8_any 39 = .ok (.invokevirtual 180, 3) := by decide +kernel
theorem dX8_any_42 : decode cX8_any 42 = .ok (.iinc 1 1, 3) := by decide +kernel
theorem dX8_any_45 : decode cX8_any 45 = .ok (.goto (-18), 3) := by decide +kernel
theorem dX8_any_48 : decode cX8_any 48 = .ok (.aload_n 0, 1) := by decide +kernel
theorem dX8_any_49 : decode cX8_any 49 = .ok (.getfield 44, 3) := by decide +kernel
theorem dX8_any_52 : decode cX8_any 52 = .ok (.iconst 1, 1) := by decide +kernel
theorem dX8_any_53 : decode cX8_any 53 = .ok (.iconst 1, 1) := by decide +kernel
theorem dX8_any_54 : decode cX8_any 54 = .ok (.bastore, 1) := by decide +kernel
theorem dX8_any_55 : decode cX8_any 55 = .ok (.aload_n 0, 1) := by decide +kernel
theorem dX8_any_56 : decode cX8_any 56 = .ok (.iconst 0, 1) := by decide +kernel
theorem dX8_any_57 : decode cX8_any 57 = .ok (.invokevirtual 191, 3) := by decide +kernel
theorem dX8_any_60 : decode cX8_any 60 = .ok (.ifCond .eq 10, 3) := by decide +kernel
theorem dX8_any_63 : decode cX8_any 63 = .ok (.aload_n 0, 1) := by decide +kernel
theorem dX8_any_64 : decode cX8_any 64 = .ok (.invokevirtual 194, 3) := by decide +kernel
theorem dX8_any_67 : decode cX8_any 67 = .ok (.goto 4, 3) := by decide +kernel
theorem dX8_any_70 : decode cX8_any 70 = .ok (.iconst 0, 1) := by decide +kernel
theorem dX8_any_71 : decode cX8_any 71 = .ok (.ireturn, 1) := by decide +kernel
set_option maxRecDepth 20000 in
theorem ggX8_joins_X8_begins : GoodIn wsX8_joins wsX8_begins := goodIn_r _ [7, 8, 2, 64, 65, 66, 67, 68, 69, 70, 71, 72, 73, 74, 75, 76, 77, 78, 79, 80, 81, 82, 83, 84, 85, 86, 87, 88, 89, 90, 91, 92, 93, 94, 95, 96, 97, 98, 99, 100, 101, 102, 103, 104, 105, 106, 107, 108, 109, 110] rfl (by decide +kernel)
set_option maxRecDepth 20000 in
theorem gX8_joins_X8_begins : GoodIn wsX8_joins (wsV RX8 188 RX8 yX8_begins wsX8_begins) := goodIn_app (goodIn_of _ (by decide +kernel)) ggX8_joins_X8_begins
set_option maxRecDepth 20000 in
theorem ggX8_joins_X8_puts : GoodIn wsX8_joins wsX8_puts := goodIn_r _ [12, 13, 14, 15, 16, 17, 18, 19, 20, 21, 6, 22, 23, 8, 24, 64, 65, 66, 67, 68, 69, 70, 71, 72, 73, 74, 75, 76, 77, 78, 79, 80, 81, 82, 83, 84, 85, 86, 87, 88, 89, 90, 91, 92, 93, 94, 95, 96, 97, 98, 99, 100, 101, 102, 103, 104, 105, 106, 107, 108, 109, 110] rfl (by decide +kernel)
set_option maxRecDepth 20000 in
theorem gX8_joins_X8_puts : GoodIn wsX8_joins (wsV RX8 198 RX8 yX8_puts wsX8_puts) := goodIn_app (goodIn_of _ (by decide +kernel)) ggX8_joins_X8_puts
set_option maxRecDepth 20000 in
theorem ggX8_joins_X8_isEndOf : GoodIn wsX8_joins wsX8_isEndOf := goodIn_r _ [28, 29, 64, 65, 66, 67, 68, 69, 70, 71, 72, 73, 74, 75, 76, 77, 78, 79, 80, 81, 82, 83, 84, 85, 86, 87, 88, 89, 90, 91, 92, 93, 94, 95, 96, 97, 98, 99, 100, 101, 102, 103, 104, 105, 106, 107, 108, 109, 110] rfl (by decide +kernel)
set_option maxRecDepth 20000 in
theorem gX8_joins_X8_isEndOf : GoodIn wsX8_joins (wsV RX8 201 RX8 yX8_isEndOf wsX8_isEndOf) := goodIn_app (goodIn_of _ (by decide +kernel)) ggX8_joins_X8_isEndOf
set_option maxRecDepth 20000 in
theorem ggX8_joins_X8_adds : GoodIn wsX8_joins wsX8_adds := goodIn_r _ [22, 23, 8, 24, 64, 65, 66, 67, 68, 69, 70, 71, 72, 73, 74, 75, 76, 77, 78, 79, 80, 81, 82, 83, 84, 85, 86, 87, 88, 89, 90, 91, 92, 93, 94, 95, 96, 97, 98, 99, 100, 101, 102, 103, 104, 105, 106, 107, 108, 109, 110] rfl (by decide +kernel)
set_option maxRecDepth 20000 in
theorem gX8_joins_X8_adds : GoodIn wsX8_joins (wsV RX8 180 RX8 yX8_adds wsX8_adds) := goodIn_app (goodIn_of _ (by decide +kernel)) ggX8_joins_X8_adds
set_option maxRecDepth 20000 in
theorem ggX8_joins_X8_trims : GoodIn wsX8_joins wsX8_trims := goodIn_r _ [33, 34, 35, 36, 37, 38, 23, 39, 40, 41, 42, 24, 43, 44, 2, 45, 46, 47, 6, 48, 49, 8, 50, 51, 52, 53, 54, 55, 56, 57, 58, 59, 60, 61, 62, 63, 64, 65, 66, 67, 68, 69, 70, 71, 72, 73, 74, 75, 76, 77, 78, 79, 80, 81, 82, 83, 84, 85, 86, 87, 88, 89, 90, 91, 92, 93, 94, 95, 96, 97, 98, 99, 100, 101, 102, 103, 104, 105, 106, 107, 108, 109, 110] rfl (by decide +kernel)
set_option maxRecDepth 20000 in
theorem gX8_joins_X8_trims : GoodIn wsX8_joins (wsV RX8 191 RX8 yX8_trims wsX8_trims) := goodIn_app (goodIn_of _ (by decide +kernel)) ggX8_joins_X8_trims
theorem dX8_joins_0 : decode cX8_joins 0 = .ok (.aload_n 0, 1) := by decide +kernel
theorem dX8_joins_1 : decode cX8_joins 1 = .ok (.invokevirtual 188, 3) := by decide +kernel
theorem dX8_joins_4 : decode cX8_joins 4 = .ok (.aload_n 0, 1) := by decide +kernel
theorem dX8_joins_5 : decode cX8_joins 5 = .ok (.iload_n 1, 1) := by decide +kernel
theorem dX8_joins_6 : decode cX8_joins 6 = .ok (.iconst 0, 1) := by decide +kernel
theorem dX8_joins_7 : decode cX8_joins 7 = .ok (.invokevirtual 198, 3) := by decide +kernel
theorem dX8_joins_10 : decode cX8_joins 10 = .ok (.aload_n 0, 1) := by decide +kernel
theorem dX8_joins_11 : decode cX8_joins 11 = .ok (.iload_n 2, 1) := by decide +kernel
theorem dX8_joins_12 : decode cX8_joins 12 = .ok (.aload_n 0, 1) := by decide +kernel
theorem dX8_joins_13 : decode cX8_joins 13 = .ok (.getfield 13, 3) := by decide +kernel
theorem dX8_joins_16 : decode cX8_joins 16 = .ok (.iload_n 1, 1) := by decide +kernel
theorem dX8_joins_17 : decode cX8_joins 17 = .ok (.iaload, 1) := by decide +kernel
theorem dX8_joins_18 : decode cX8_joins 18 = .ok (.invokevirtual 198, 3) := by decide +kernel
theorem dX8_joins_21 : decode cX8_joins 21 = .ok (.iconst 0, 1) := by decide +kernel
theorem dX8_joins_22 : decode cX8_joins 22 = .ok (.istore_n 3, 1) := by decide +kernel
theorem dX8_joins_23 : decode cX8_joins 23 = .ok (.iload_n 3, 1) := by decide +kernel
theorem dX8_joins_24 : decode cX8_joins 24 = .ok (.aload_n 0, 1) := by decide +kernel
theorem dX8_joins_25 : decode cX8_joins 25 = .ok (.getfield 13, 3) := by decide +kernel
theorem dX8_joins_28 : decode cX8_joins 28 = .ok (.iload_n 1, 1) := by decide +kernel
theorem dX8_joins_29 : decode cX8_joins 29 = .ok (.iaload, 1) := by decide +kernel
theorem dX8_joins_30 : decode cX8_joins 30 = .ok (.if_icmp .ge 34, 3) := by decide +kernel
theorem dX8_joins_33 : decode cX8_joins 33 = .ok (.aload_n 0, 1) := by decide +kernel
theorem dX8_joins_34 : decode cX8_joins 34 = .ok (.iload_n 1, 1) := by decide +kernel
theorem dX8_joins_35 : decode cX8_joins 35 = .ok (.iload_n 3, 1) := by decide +kernel
theorem dX8_joins_36 : decode cX8_joins 36 = .ok (.invokevirtual 201, 3) := by decide +kernel
theorem dX8_joins_39 : decode cX8_joins 39 = .ok (.ifCond .eq 19, 3) := by decide +kernel
theorem dX8_joins_42 : decode cX8_joins 42 = .ok (.aload_n 0, 1) := by decide +kernel
theorem dX8_joins_43 : decode cX8_joins 43 = .ok (.iload_n 3, 1) := by decide +kernel
theorem dX8_joins_44 : decode cX8_joins 44 = .ok (.bipush 8, 2) := by decide +kernel
theorem dX8_joins_46 : decode cX8_joins 46 = .ok (.bipush 8, 2) := by decide +kernel
theorem dX8_joins_48 : decode cX8_joins 48 = .ok (.iconst 0, 1) := by decide +kernel
theorem dX8_joins_49 : decode cX8_joins 49 = .ok (.aload_n 0, 1) := by decide +kernel
theorem dX8_joins_50 : decode cX8_joins 50 = .ok (.getfield 13, 3) := by decide +kernel
theorem dX8_joins_53 : decode cX8_joins 53 = .ok (.iload_n 1, 1) := by decide +kernel
theorem dX8_joins_54 : decode cX8_joins 54 = .ok (.iaload, 1) := by decide +kernel
theorem dX8_joins_55 : decode cX8_joins 55 = .ok (.invokevirtual 180, 3) := by decide +kernel
theorem dX8_joins_58 : decode cX8_joins 58 = .ok (.iinc 3 1, 3) := by decide +kernel
theorem dX8_joins_61 : decode cX8_joins 61 = .ok (.goto (-38), 3) := by decide +kernel
theorem dX8_joins_64 : decode cX8_joins 64 = .ok (.iconst 0, 1) := by decide +kernel
theorem dX8_joins_65 : decode cX8_joins 65 = .ok (.istore_n 3, 1) := by decide +kernel
theorem dX8_joins_66 : decode cX8_joins 66 = .ok (.iload_n 3, 1) := by decide +kernel
theorem dX8_joins_67 : decode cX8_joins 67 = .ok (.aload_n 0, 1) := by decide +kernel
theorem dX8_joins_68 : decode cX8_joins 68 = .ok (.getfield 13, 3) := by decide +kernel
theorem dX8_joins_71 : decode cX8_joins 71 = .ok (.iload_n 2, 1) := by decide +kernel
theorem dX8_joins_72 : decode cX8_joins 72 = .ok (.iaload, 1) := by decide +kernel
theorem dX8_joins_73 : decode cX8_joins 73 = .ok (.if_icmp .ge 28, 3) := by decide +kernel
theorem dX8_joins_76 : decode cX8_joins 76 = .ok (.aload_n 0, 1) := by decide +kernel
theorem dX8_joins_77 : decode cX8_joins 77 = .ok (.getfield 44, 3) := by decide +kernel
theorem dX8_joins_80 : decode cX8_joins 80 = .ok (.aload_n 0, 1) := by decide +kernel
theorem dX8_joins_81 : decode cX8_joins 81 = .ok (.getfield 13, 3) := by decide +kernel
theorem dX8_joins_84 : decode cX8_joins 84 = .ok (.iload_n 1, 1) := by decide +kernel
theorem dX8_joins_85 : decode cX8_joins 85 = .ok (.iaload, 1) := by decide +kernel
theorem dX8_joins_86 : decode cX8_joins 86 = .ok (.iload_n 3, 1) := by decide +kernel
theorem dX8_joins_87 : decode cX8_joins 87 = .ok (.iadd, 1) := by decide +kernel
theorem dX8_joins_88 : decode cX8_joins 88 = .ok (.aload_n 0, 1) := by decide +kernel
theorem dX8_joins_89 : decode cX8_joins 89 = .ok (.iload_n 2, 1) := by decide +kernel
theorem dX8_joins_90 : decode cX8_joins 90 = .ok (.iload_n 3, 1) := by decide +kernel
theorem dX8_joins_91 : decode cX8_joins 91 = .ok (.invokevirtual 201, 3) := by decide +kernel
theorem dX8_joins_94 : decode cX8_joins 94 = .ok (.bastore, 1) := by decide +kernel
theorem dX8_joins_95 : decode cX8_joins 95 = .ok (.iinc 3 1, 3) := by decide +kernel
theorem dX8_joins_98 : decode cX8_joins 98 = .ok (.goto (-32), 3) := by decide +kernel
theorem dX8_joins_101 : decode cX8_joins 101 = .ok (.aload_n 0, 1) := by decide +kernel
theorem dX8_joins_102 : decode cX8_joins 102 = .ok (.iconst 0, 1) := by decide +kernel
theorem dX8_joins_103 : decode cX8_joins 103 = .ok (.invokevirtual 191, 3) := by decide +kernel
theorem dX8_joins_106 : decode cX8_joins 106 = .ok (.ireturn, 1) := by decide +kernel
set_option maxRecDepth 20000 in
theorem ggX8_join_X8_isMachine : GoodIn wsX8_join wsX8_isMachine := goodIn_r _ [5, 6, 7, 8, 4, 9, 97, 98, 99, 100, 101, 102, 103, 104, 105, 106, 107, 108, 109, 110, 111, 112, 113, 114, 115, 116, 117, 118, 119, 120, 121, 122, 123, 124, 125, 126, 127, 128, 129, 130, 131, 132, 133, 134, 135, 136, 137, 138, 139, 140, 141, 142, 143] rfl (by decide +kernel)
set_option maxRecDepth 20000 in
theorem gX8_join_X8_isMachine : GoodIn wsX8_join (wsV RX8 204 RX8 yX8_isMachine wsX8_isMachine) := goodIn_app (goodIn_of _ (by decide +kernel)) ggX8_join_X8_isMachine
set_option maxRecDepth 20000 in
theorem ggX8_join_X8_isThere : GoodIn wsX8_join wsX8_isThere := goodIn_r _ [13, 6, 97, 98, 99, 100, 101, 102, 103, 104, 105, 106, 107, 108, 109, 110, 111, 112, 113, 114, 115, 116, 117, 118, 119, 120, 121, 122, 123, 124, 125, 126, 127, 128, 129, 130, 131, 132, 133, 134, 135, 136, 137, 138, 139, 140, 141, 142, 143] rfl (by decide +kernel)
set_option maxRecDepth 20000 in
theorem gX8_join_X8_isThere : GoodIn wsX8_join (wsV RX8 184 RX8 yX8_isThere wsX8_isThere) := goodIn_app (goodIn_of _ (by decide +kernel)) ggX8_join_X8_isThere
set_option maxRecDepth 20000 in
theorem ggX8_join_X8_joins : GoodIn wsX8_join wsX8_joins := goodIn_r _ [17, 18, 19, 20, 21, 22, 4, 23, 24, 25, 26, 27, 28, 29, 30, 31, 32, 33, 34, 35, 36, 37, 38, 39, 40, 41, 42, 43, 44, 45, 46, 47, 48, 49, 50, 51, 52, 53, 54, 55, 56, 57, 58, 59, 60, 61, 62, 63, 64, 65, 66, 67, 68, 69, 70, 71, 72, 73, 74, 75, 76, 77, 78, 79, 97, 98, 99, 100, 101, 102, 103, 104, 105, 106, 107, 108, 109, 110, 111, 112, 113, 114, 115, 116, 117, 118, 119, 120, 121, 122, 123, 124, 125, 126, 127, 128, 129, 130, 131, 132, 133, 134, 135, 136, 137, 138, 139, 140, 141, 142, 143] rfl (by decide +kernel)
set_option maxRecDepth 20000 in
theorem gX8_join_X8_joins : GoodIn wsX8_join (wsV RX8 207 RX8 yX8_joins wsX8_joins) := goodIn_app (goodIn_of _ (by decide +kernel)) ggX8_join_X8_joins
set_option maxRecDepth 20000 in
theorem ggX8_join_X8_isFine : GoodIn wsX8_join wsX8_isFine := goodIn_r _ [83, 84, 97, 98, 99, 100, 101, 102, 103, 104, 105, 106, 107, 108, 109, 110, 111, 112, 113, 114, 115, 116, 117, 118, 119, 120, 121, 122, 123, 124, 125, 126, 127, 128, 129, 130, 131, 132, 133, 134, 135, 136, 137, 138, 139, 140, 141, 142, 143] rfl (by decide +kernel)
set_option maxRecDepth 20000 in
theorem gX8_join_X8_isFine : GoodIn wsX8_join (wsV RX8 138 RX8 yX8_isFine wsX8_isFine) := goodIn_app (goodIn_of _ (by decide +kernel)) ggX8_join_X8_isFine
set_option maxRecDepth 20000 in
theorem ggX8_join_X8_keeps : GoodIn wsX8_join wsX8_keeps := goodIn_r _ [88, 52, 6, 18, 51, 45, 60, 29, 30, 55, 31, 56, 32, 57, 33, 58, 34, 59, 89, 90, 91, 4, 92, 93, 94, 95, 96, 97, 98, 99, 100, 101, 102, 103, 104, 105, 106, 107, 108, 109, 110, 111, 112, 113, 114, 115, 116, 117, 118, 119, 120, 121, 122, 123, 124, 125, 126, 127, 128, 129, 130, 131, 132, 133, 134, 135, 136, 137, 138, 139, 140, 141, 142, 143] rfl (by decide +kernel)
set_option maxRecDepth 20000 in
theorem gX8_join_X8_keeps : GoodIn wsX8_join (wsV RX8 194 RX8 yX8_keeps wsX8_keeps) := goodIn_app (goodIn_of _ (by decide +kernel)) ggX8_join_X8_keeps
theorem dX8_join_0 : decode cX8_join 0 = .ok (.aload_n 0, 1) := by decide +kernel
theorem dX8_join_1 : decode cX8_join 1 = .ok (.iload_n 1, 1) := by decide +kernel
theorem dX8_join_2 : decode cX8_join 2 = .ok (.invokevirtual 204, 3) := by decide +kernel
theorem dX8_join_5 : decode cX8_join 5 = .ok (.ifCond .eq 15, 3) := by decide +kernel
theorem dX8_join_8 : decode cX8_join 8 = .ok (.aload_n 0, 1) := by decide +kernel
theorem dX8_join_9 : decode cX8_join 9 = .ok (.iload_n 2, 1) := by decide +kernel
theorem dX8_join_10 : decode cX8_join 10 = .ok (.invokevirtual 204, 3) := by decide +kernel
theorem dX8_join_13 : decode cX8_join 13 = .ok (.ifCond .eq 7, 3) := by decide +kernel
theorem dX8_join_16 : decode cX8_join 16 = .ok (.iconst 1, 1) := by decide +kernel
theorem dX8_join_17 : decode cX8_join 17 = .ok (.goto 4, 3) := by decide +kernel
theorem dX8_join_20 : decode cX8_join 20 = .ok (.iconst 0, 1) := by decide +kernel
theorem dX8_join_21 : decode cX8_join 21 = .ok (.istore_n 3, 1) := by decide +kernel
theorem dX8_join_22 : decode cX8_join 22 = .ok (.aload_n 0, 1) := by decide +kernel
theorem dX8_join_23 : decode cX8_join 23 = .ok (.iload_n 3, 1) := by decide +kernel
theorem dX8_join_24 : decode cX8_join 24 = .ok (.ifCond .ne 7, 3) := by decide +kernel
theorem dX8_join_27 : decode cX8_join 27 = .ok (.iconst 1, 1) := by decide +kernel
theorem dX8_join_28 : decode cX8_join 28 = .ok (.goto 24, 3) := by decide +kernel
theorem dX8_join_31 : decode cX8_join 31 = .ok (.aload_n 0, 1) := by decide +kernel
theorem dX8_join_32 : decode cX8_join 32 = .ok (.invokevirtual 184, 3) := by decide +kernel
theorem dX8_join_35 : decode cX8_join 35 = .ok (.ifCond .eq 12, 3) := by decide +kernel
theorem dX8_join_38 : decode cX8_join 38 = .ok (.aload_n 0, 1) := by decide +kernel
theorem dX8_join_39 : decode cX8_join 39 = .ok (.iload_n 1, 1) := by decide +kernel
theorem dX8_join_40 : decode cX8_join 40 = .ok (.iload_n 2, 1) := by decide +kernel
theorem dX8_join_41 : decode cX8_join 41 = .ok (.invokevirtual 207, 3) := by decide +kernel
theorem dX8_join_44 : decode cX8_join 44 = .ok (.ifCond .ne 7, 3) := by decide +kernel
theorem dX8_join_47 : decode cX8_join 47 = .ok (.iconst 2, 1) := by decide +kernel
theorem dX8_join_48 : decode cX8_join 48 = .ok (.goto 4, 3) := by decide +kernel
theorem dX8_join_51 : decode cX8_join 51 = .ok (.iconst 0, 1) := by decide +kernel
theorem dX8_join_52 : decode cX8_join 52 = .ok (.invokevirtual 138, 3) := by decide +kernel
theorem dX8_join_55 : decode cX8_join 55 = .ok (.ifCond .ne 5, 3) := by decide +kernel
theorem dX8_join_58 : decode cX8_join 58 = .ok (.iconst 0, 1) := by decide +kernel
theorem dX8_join_59 : decode cX8_join 59 = .ok (.ireturn, 1) := by decide +kernel
theorem dX8_join_60 : decode cX8_join 60 = .ok (.aload_n 0, 1) := by decide +kernel
theorem dX8_join_61 : decode cX8_join 61 = .ok (.invokevirtual 194, 3) := by decide +kernel
theorem dX8_join_64 : decode cX8_join 64 = .ok (.ireturn, 1) := by decide +kernel
set_option maxRecDepth 20000 in
theorem ggX8_unites_X8_begins : GoodIn wsX8_unites wsX8_begins := goodIn_r _ [7, 8, 2, 64, 65, 66, 67, 68, 69, 70, 71, 72, 73, 74, 75, 76, 77, 78, 79, 80, 81, 82, 83, 84, 85, 86, 87, 88, 89, 90, 91, 92, 93, 94, 95, 96, 97, 98, 99, 100, 101, 102, 103, 104, 105, 106, 107, 108, 109, 110] rfl (by decide +kernel)
set_option maxRecDepth 20000 in
theorem gX8_unites_X8_begins : GoodIn wsX8_unites (wsV RX8 188 RX8 yX8_begins wsX8_begins) := goodIn_app (goodIn_of _ (by decide +kernel)) ggX8_unites_X8_begins
set_option maxRecDepth 20000 in
theorem ggX8_unites_X8_puts : GoodIn wsX8_unites wsX8_puts := goodIn_r _ [12, 13, 14, 15, 16, 17, 18, 19, 20, 21, 6, 22, 23, 8, 24, 64, 65, 66, 67, 68, 69, 70, 71, 72, 73, 74, 75, 76, 77, 78, 79, 80, 81, 82, 83, 84, 85, 86, 87, 88, 89, 90, 91, 92, 93, 94, 95, 96, 97, 98, 99, 100, 101, 102, 103, 104, 105, 106, 107, 108, 109, 110] rfl (by decide +kernel)
set_option maxRecDepth 20000 in
theorem gX8_unites_X8_puts : GoodIn wsX8_unites (wsV RX8 198 RX8 yX8_puts wsX8_puts) := goodIn_app (goodIn_of _ (by decide +kernel)) ggX8_unites_X8_puts
set_option maxRecDepth 20000 in
theorem ggX8_unites_X8_adds : GoodIn wsX8_unites wsX8_adds := goodIn_r _ [22, 23, 8, 24, 64, 65, 66, 67, 68, 69, 70, 71, 72, 73, 74, 75, 76, 77, 78, 79, 80, 81, 82, 83, 84, 85, 86, 87, 88, 89, 90, 91, 92, 93, 94, 95, 96, 97, 98, 99, 100, 101, 102, 103, 104, 105, 106, 107, 108, 109, 110] rfl (by decide +kernel)
set_option maxRecDepth 20000 in
theorem gX8_unites_X8_adds : GoodIn wsX8_unites (wsV RX8 180 RX8 yX8_adds wsX8_adds) := goodIn_app (goodIn_of _ (by decide +kernel)) ggX8_unites_X8_adds
set_option maxRecDepth 20000 in
theorem ggX8_unites_X8_isEndOf : GoodIn wsX8_unites wsX8_isEndOf := goodIn_r _ [28, 29, 64, 65, 66, 67, 68, 69, 70, 71, 72, 73, 74, 75, 76, 77, 78, 79, 80, 81, 82, 83, 84, 85, 86, 87, 88, 89, 90, 91, 92, 93, 94, 95, 96, 97, 98, 99, 100, 101, 102, 103, 104, 105, 106, 107, 108, 109, 110] rfl (by decide +kernel)
set_option maxRecDepth 20000 in
theorem gX8_unites_X8_isEndOf : GoodIn wsX8_unites (wsV RX8 201 RX8 yX8_isEndOf wsX8_isEndOf) := goodIn_app (goodIn_of _ (by decide +kernel)) ggX8_unites_X8_isEndOf
set_option maxRecDepth 20000 in
theorem ggX8_unites_X8_trims : GoodIn wsX8_unites wsX8_trims := goodIn_r _ [33, 34, 35, 36, 37, 38, 23, 39, 40, 41, 42, 24, 43, 44, 2, 45, 46, 47, 6, 48, 49, 8, 50, 51, 52, 53, 54, 55, 56, 57, 58, 59, 60, 61, 62, 63, 64, 65, 66, 67, 68, 69, 70, 71, 72, 73, 74, 75, 76, 77, 78, 79, 80, 81, 82, 83, 84, 85, 86, 87, 88, 89, 90, 91, 92, 93, 94, 95, 96, 97, 98, 99, 100, 101, 102, 103, 104, 105, 106, 107, 108, 109, 110] rfl (by decide +kernel)
set_option maxRecDepth 20000 in
theorem gX8_unites_X8_trims : GoodIn wsX8_unites (wsV RX8 191 RX8 yX8_trims wsX8_trims) := goodIn_app (goodIn_of _ (by decide +kernel)) ggX8_unites_X8_trims
theorem dX8_unites_0 : decode cX8_unites 0 = .ok (.aload_n 0, 1) := by decide +kernel
theorem dX8_unites_1 : decode cX8_unites 1 = .ok (.invokevirtual 188, 3) := by decide +kernel
theorem dX8_unites_4 : decode cX8_unites 4 = .ok (.aload_n 0, 1) := by decide +kernel
theorem dX8_unites_5 : decode cX8_unites 5 = .ok (.iload_n 1, 1) := by decide +kernel
theorem dX8_unites_6 : decode cX8_unites 6 = .ok (.iconst 0, 1) := by decide +kernel
theorem dX8_unites_7 : decode cX8_unites 7 = .ok (.invokevirtual 198, 3) := by decide +kernel
theorem dX8_unites_10 : decode cX8_unites 10 = .ok (.aload_n 0, 1) := by decide +kernel
theorem dX8_unites_11 : decode cX8_unites 11 = .ok (.iload_n 2, 1) := by decide +kernel
theorem dX8_unites_12 : decode cX8_unites 12 = .ok (.aload_n 0, 1) := by decide +kernel
theorem dX8_unites_13 : decode cX8_unites 13 = .ok (.getfield 13, 3) := by decide +kernel
theorem dX8_unites_16 : decode cX8_unites 16 = .ok (.iload_n 1, 1) := by decide +kernel
theorem dX8_unites_17 : decode cX8_unites 17 = .ok (.iaload, 1) := by decide +kernel
theorem dX8_unites_18 : decode cX8_unites 18 = .ok (.invokevirtual 198, 3) := by decide +kernel
theorem dX8_unites_21 : decode cX8_unites 21 = .ok (.aload_n 0, 1) := by decide +kernel
theorem dX8_unites_22 : decode cX8_unites 22 = .ok (.getfield 13, 3) := by decide +kernel
theorem dX8_unites_25 : decode cX8_unites 25 = .ok (.iload_n 1, 1) := by decide +kernel
theorem dX8_unites_26 : decode cX8_unites 26 = .ok (.iaload, 1) := by decide +kernel
theorem dX8_unites_27 : decode cX8_unites 27 = .ok (.aload_n 0, 1) := by decide +kernel
theorem dX8_unites_28 : decode cX8_unites 28 = .ok (.getfield 13, 3) := by decide +kernel
theorem dX8_unites_31 : decode cX8_unites 31 = .ok (.iload_n 2, 1) := by decide +kernel
theorem dX8_unites_32 : decode cX8_unites 32 = .ok (.iaload, 1) := by decide +kernel
theorem dX8_unites_33 : decode cX8_unites 33 = .ok (.iadd, 1) := by decide +kernel
theorem dX8_unites_34 : decode cX8_unites 34 = .ok (.istore_n 3, 1) := by decide +kernel
theorem dX8_unites_35 : decode cX8_unites 35 = .ok (.aload_n 0, 1) := by decide +kernel
theorem dX8_unites_36 : decode cX8_unites 36 = .ok (.iload_n 3, 1) := by decide +kernel
theorem dX8_unites_37 : decode cX8_unites 37 = .ok (.bipush 8, 2) := by decide +kernel
theorem dX8_unites_39 : decode cX8_unites 39 = .ok (.bipush 8, 2) := by decide +kernel
theorem dX8_unites_41 : decode cX8_unites 41 = .ok (.iconst 0, 1) := by decide +kernel
theorem dX8_unites_42 : decode cX8_unites 42 = .ok (.iconst 0, 1) := by decide +kernel
theorem dX8_unites_43 : decode cX8_unites 43 = .ok (.invokevirtual 180, 3) := by decide +kernel
theorem dX8_unites_46 : decode cX8_unites 46 = .ok (.aload_n 0, 1) := by decide +kernel
theorem dX8_unites_47 : decode cX8_unites 47 = .ok (.iload_n 3, 1) := by decide +kernel
theorem dX8_unites_48 : decode cX8_unites 48 = .ok (.bipush 8, 2) := by decide +kernel
theorem dX8_unites_50 : decode cX8_unites 50 = .ok (.bipush 8, 2) := by decide +kernel
theorem dX8_unites_52 : decode cX8_unites 52 = .ok (.iconst 0, 1) := by decide +kernel
theorem dX8_unites_53 : decode cX8_unites 53 = .ok (.aload_n 0, 1) := by decide +kernel
theorem dX8_unites_54 : decode cX8_unites 54 = .ok (.getfield 13, 3) := by decide +kernel
theorem dX8_unites_57 : decode cX8_unites 57 = .ok (.iload_n 1, 1) := by decide +kernel
theorem dX8_unites_58 : decode cX8_unites 58 = .ok (.iaload, 1) := by decide +kernel
theorem dX8_unites_59 : decode cX8_unites 59 = .ok (.invokevirtual 180, 3) := by decide +kernel
theorem dX8_unites_62 : decode cX8_unites 62 = .ok (.iconst 0, 1) := by decide +kernel
theorem dX8_unites_63 : decode cX8_unites 63 = .ok (.istore 4, 2) := by decide +kernel
theorem dX8_unites_65 : decode cX8_unites 65 = .ok (.iload 4, 2) := by decide +kernel
theorem dX8_unites_67 : decode cX8_unites 67 = .ok (.iload_n 3, 1) := by decide +kernel
theorem dX8_unites_68 : decode cX8_unites 68 = .ok (.if_icmp .ge 51, 3) := by decide +kernel
theorem dX8_unites_71 : decode cX8_unites 71 = .ok (.aload_n 0, 1) := by decide +kernel
theorem dX8_unites_72 : decode cX8_unites 72 = .ok (.getfield 44, 3) := by decide +kernel
theorem dX8_unites_75 : decode cX8_unites 75 = .ok (.iload 4, 2) := by decide +kernel
theorem dX8_unites_77 : decode cX8_unites 77 = .ok (.iload 4, 2) := by decide +kernel
theorem dX8_unites_79 : decode cX8_unites 79 = .ok (.aload_n 0, 1) := by decide +kernel
theorem dX8_unites_80 : decode cX8_unites 80 = .ok (.getfield 13, 3) := by decide +kernel
theorem dX8_unites_83 : decode cX8_unites 83 = .ok (.iload_n 1, 1) := by decide +kernel
theorem dX8_unites_84 : decode cX8_unites 84 = .ok (.iaload, 1) := by decide +kernel
theorem dX8_unites_85 : decode cX8_unites 85 = .ok (.if_icmp .ge 13, 3) := by decide +kernel
theorem dX8_unites_88 : decode cX8_unites 88 = .ok (.aload_n 0, 1) := by decide +kernel
theorem dX8_unites_89 : decode cX8_unites 89 = .ok (.iload_n 1, 1) := by decide +kernel
theorem dX8_unites_90 : decode cX8_unites 90 = .ok (.iload 4, 2) := by decide +kernel
theorem dX8_unites_92 : decode cX8_unites 92 = .ok (.invokevirtual 201, 3) := by decide +kernel
theorem dX8_unites_95 : decode cX8_unites 95 = .ok (.goto 17, 3) := by decide +kernel
theorem dX8_unites_98 : decode cX8_unites 98 = .ok (.aload_n 0, 1) := by decide +kernel
theorem dX8_unites_99 : decode cX8_unites 99 = .ok (.iload_n 2, 1) := by decide +kernel
theorem dX8_unites_100 : decode cX8_unites 100 = .ok (.iload 4, 2) := by decide +kernel
theorem dX8_unites_102 : decode cX8_unites 102 = .ok (.aload_n 0, 1) := by decide +kernel
theorem dX8_unites_103 : decode cX8_unites 103 = .ok (.getfield 13, 3) := by decide +kernel
theorem dX8_unites_106 : decode cX8_unites 106 = .ok (.iload_n 1, 1) := by decide +kernel
theorem dX8_unites_107 : decode cX8_unites 107 = .ok (.iaload, 1) := by decide +kernel
theorem dX8_unites_108 : decode cX8_unites 108 = .ok (.isub, 1) := by decide +kernel
theorem dX8_unites_109 : decode cX8_unites 109 = .ok (.invokevirtual 201, 3) := by decide +kernel
theorem dX8_unites_112 : decode cX8_unites 112 = .ok (.bastore, 1) := by decide +kernel
theorem dX8_unites_113 : decode cX8_unites 113 = .ok (.iinc 4 1, 3) := by decide +kernel
theorem dX8_unites_116 : decode cX8_unites 116 = .ok (.goto (-51), 3) := by decide +kernel
theorem dX8_unites_119 : decode cX8_unites 119 = .ok (.aload_n 0, 1) := by decide +kernel
theorem dX8_unites_120 : decode cX8_unites 120 = .ok (.iload_n 3, 1) := by decide +kernel
theorem dX8_unites_121 : decode cX8_unites 121 = .ok (.invokevirtual 191, 3) := by decide +kernel
theorem dX8_unites_124 : decode cX8_unites 124 = .ok (.ireturn, 1) := by decide +kernel
set_option maxRecDepth 20000 in
theorem ggX8_unite_X8_isMachine : GoodIn wsX8_unite wsX8_isMachine := goodIn_r _ [5, 6, 7, 8, 4, 9, 97, 98, 99, 100, 101, 102, 103, 104, 105, 106, 107, 108, 109, 110, 111, 112, 113, 114, 115, 116, 117, 118, 119, 120, 121, 122, 123, 124, 125, 126, 127, 128, 129, 130, 131, 132, 133, 134, 135, 136, 137, 138, 139, 140, 141, 142, 143] rfl (by decide +kernel)
set_option maxRecDepth 20000 in
theorem gX8_unite_X8_isMachine : GoodIn wsX8_unite (wsV RX8 204 RX8 yX8_isMachine wsX8_isMachine) := goodIn_app (goodIn_of _ (by decide +kernel)) ggX8_unite_X8_isMachine
set_option maxRecDepth 20000 in
theorem ggX8_unite_X8_isThere : GoodIn wsX8_unite wsX8_isThere := goodIn_r _ [13, 6, 97, 98, 99, 100, 101, 102, 103, 104, 105, 106, 107, 108, 109, 110, 111, 112, 113, 114, 115, 116, 117, 118, 119, 120, 121, 122, 123, 124, 125, 126, 127, 128, 129, 130, 131, 132, 133, 134, 135, 136, 137, 138, 139, 140, 141, 142, 143] rfl (by decide +kernel)
set_option maxRecDepth 20000 in
theorem gX8_unite_X8_isThere : GoodIn wsX8_unite (wsV RX8 184 RX8 yX8_isThere wsX8_isThere) := goodIn_app (goodIn_of _ (by decide +kernel)) ggX8_unite_X8_isThere
set_option maxRecDepth 20000 in
theorem ggX8_unite_X8_unites : GoodIn wsX8_unite wsX8_unites := goodIn_r _ [17, 18, 19, 20, 21, 22, 4, 23, 24, 25, 26, 27, 28, 29, 30, 31, 32, 33, 34, 35, 36, 37, 38, 39, 40, 41, 42, 43, 44, 45, 46, 47, 48, 49, 50, 51, 52, 53, 54, 55, 56, 57, 58, 59, 60, 61, 62, 63, 64, 65, 66, 67, 68, 69, 70, 71, 72, 73, 74, 75, 76, 77, 78, 79, 97, 98, 99, 100, 101, 102, 103, 104, 105, 106, 107, 108, 109, 110, 111, 112, 113, 114, 115, 116, 117, 118, 119, 120, 121, 122, 123, 124, 125, 126, 127, 128, 129, 130, 131, 132, 133, 134, 135, 136, 137, 138, 139, 140, 141, 142, 143] rfl (by decide +kernel)
set_option maxRecDepth 20000 in
theorem gX8_unite_X8_unites : GoodIn wsX8_unite (wsV RX8 210 RX8 yX8_unites wsX8_unites) := goodIn_app (goodIn_of _ (by decide +kernel)) ggX8_unite_X8_unites
set_option maxRecDepth 20000 in
theorem ggX8_unite_X8_isFine : GoodIn wsX8_unite wsX8_isFine := goodIn_r _ [83, 84, 97, 98, 99, 100, 101, 102, 103, 104, 105, 106, 107, 108, 109, 110, 111, 112, 113, 114, 115, 116, 117, 118, 119, 120, 121, 122, 123, 124, 125, 126, 127, 128, 129, 130, 131, 132, 133, 134, 135, 136, 137, 138, 139, 140, 141, 142, 143] rfl (by decide +kernel)
set_option maxRecDepth 20000 in
theorem gX8_unite_X8_isFine : GoodIn wsX8_unite (wsV RX8 138 RX8 yX8_isFine wsX8_isFine) := goodIn_app (goodIn_of _ (by decide +kernel)) ggX8_unite_X8_isFine
set_option maxRecDepth 20000 in
theorem ggX8_unite_X8_keeps : GoodIn wsX8_unite wsX8_keeps := goodIn_r _ [88, 52, 6, 18, 51, 45, 60, 29, 30, 55, 31, 56, 32, 57, 33, 58, 34, 59, 89, 90, 91, 4, 92, 93, 94, 95, 96, 97, 98, 99, 100, 101, 102, 103, 104, 105, 106, 107, 108, 109, 110, 111, 112, 113, 114, 115, 116, 117, 118, 119, 120, 121, 122, 123, 124, 125, 126, 127, 128, 129, 130, 131, 132, 133, 134, 135, 136, 137, 138, 139, 140, 141, 142, 143] rfl (by decide +kernel)
set_option maxRecDepth 20000 in
theorem gX8_unite_X8_keeps : GoodIn wsX8_unite (wsV RX8 194 RX8 yX8_keeps wsX8_keeps) := goodIn_app (goodIn_of _ (by decide +kernel)) ggX8_unite_X8_keeps
theorem dX8_unite_0 : decode cX8_unite 0 = .ok (.aload_n 0, 1) := by decide +kernel
theorem dX8_unite_1 : decode cX8_unite 1 = .ok (.iload_n 1, 1) := by decide +kernel
theorem dX8_unite_2 : decode cX8_unite 2 = .ok (.invokevirtual 204, 3) := by decide +kernel
theorem dX8_unite_5 : decode cX8_unite 5 = .ok (.ifCond .eq 15, 3) := by decide +kernel
theorem dX8_unite_8 : decode cX8_unite 8 = .ok (.aload_n 0, 1) := by decide +kernel
theorem dX8_unite_9 : decode cX8_unite 9 = .ok (.iload_n 2, 1) := by decide +kernel
theorem dX8_unite_10 : decode cX8_unite 10 = .ok (.invokevirtual 204, 3) := by decide +kernel
theorem dX8_unite_13 : decode cX8_unite 13 = .ok (.ifCond .eq 7, 3) := by decide +kernel
theorem dX8_unite_16 : decode cX8_unite 16 = .ok (.iconst 1, 1) := by decide +kernel
theorem dX8_unite_17 : decode cX8_unite 17 = .ok (.goto 4, 3) := by decide +kernel
theorem dX8_unite_20 : decode cX8_unite 20 = .ok (.iconst 0, 1) := by decide +kernel
theorem dX8_unite_21 : decode cX8_unite 21 = .ok (.istore_n 3, 1) := by decide +kernel
theorem dX8_unite_22 : decode cX8_unite 22 = .ok (.aload_n 0, 1) := by decide +kernel
theorem dX8_unite_23 : decode cX8_unite 23 = .ok (.iload_n 3, 1) := by decide +kernel
theorem dX8_unite_24 : decode cX8_unite 24 = .ok (.ifCond .ne 7, 3) := by decide +kernel
theorem dX8_unite_27 : decode cX8_unite 27 = .ok (.iconst 1, 1) := by decide +kernel
theorem dX8_unite_28 : decode cX8_unite 28 = .ok (.goto 24, 3) := by decide +kernel
theorem dX8_unite_31 : decode cX8_unite 31 = .ok (.aload_n 0, 1) := by decide +kernel
theorem dX8_unite_32 : decode cX8_unite 32 = .ok (.invokevirtual 184, 3) := by decide +kernel
theorem dX8_unite_35 : decode cX8_unite 35 = .ok (.ifCond .eq 12, 3) := by decide +kernel
theorem dX8_unite_38 : decode cX8_unite 38 = .ok (.aload_n 0, 1) := by decide +kernel
theorem dX8_unite_39 : decode cX8_unite 39 = .ok (.iload_n 1, 1) := by decide +kernel
theorem dX8_unite_40 : decode cX8_unite 40 = .ok (.iload_n 2, 1) := by decide +kernel
theorem dX8_unite_41 : decode cX8_unite 41 = .ok (.invokevirtual 210, 3) := by decide +kernel
theorem dX8_unite_44 : decode cX8_unite 44 = .ok (.ifCond .ne 7, 3) := by decide +kernel
theorem dX8_unite_47 : decode cX8_unite 47 = .ok (.iconst 2, 1) := by decide +kernel
theorem dX8_unite_48 : decode cX8_unite 48 = .ok (.goto 4, 3) := by decide +kernel
theorem dX8_unite_51 : decode cX8_unite 51 = .ok (.iconst 0, 1) := by decide +kernel
theorem dX8_unite_52 : decode cX8_unite 52 = .ok (.invokevirtual 138, 3) := by decide +kernel
theorem dX8_unite_55 : decode cX8_unite 55 = .ok (.ifCond .ne 5, 3) := by decide +kernel
theorem dX8_unite_58 : decode cX8_unite 58 = .ok (.iconst 0, 1) := by decide +kernel
theorem dX8_unite_59 : decode cX8_unite 59 = .ok (.ireturn, 1) := by decide +kernel
theorem dX8_unite_60 : decode cX8_unite 60 = .ok (.aload_n 0, 1) := by decide +kernel
theorem dX8_unite_61 : decode cX8_unite 61 = .ok (.invokevirtual 194, 3) := by decide +kernel
theorem dX8_unite_64 : decode cX8_unite 64 = .ok (.ireturn, 1) := by decide +kernel
theorem dX8_hasEmpty_0 : decode cX8_hasEmpty 0 = .ok (.iconst 1, 1) := by decide +kernel
theorem dX8_hasEmpty_1 : decode cX8_hasEmpty 1 = .ok (.istore_n 3, 1) := by decide +kernel
theorem dX8_hasEmpty_2 : decode cX8_hasEmpty 2 = .ok (.iconst 0, 1) := by decide +kernel
theorem dX8_hasEmpty_3 : decode cX8_hasEmpty 3 = .ok (.istore 4, 2) := by decide +kernel
theorem dX8_hasEmpty_5 : decode cX8_hasEmpty 5 = .ok (.iload 4, 2) := by decide +kernel
theorem dX8_hasEmpty_7 : decode cX8_hasEmpty 7 = .ok (.bipush 32, 2) := by decide +kernel
theorem dX8_hasEmpty_9 : decode cX8_hasEmpty 9 = .ok (.if_icmp .ge 108, 3) := by decide +kernel
theorem dX8_hasEmpty_12 : decode cX8_hasEmpty 12 = .ok (.sipush 160, 3) := by decide +kernel
theorem dX8_hasEmpty_15 : decode cX8_hasEmpty 15 = .ok (.iload_n 1, 1) := by decide +kernel
theorem dX8_hasEmpty_16 : decode cX8_hasEmpty 16 = .ok (.imul, 1) := by decide +kernel
theorem dX8_hasEmpty_17 : decode cX8_hasEmpty 17 = .ok (.istore 5, 2) := by decide +kernel
theorem dX8_hasEmpty_19 : decode cX8_hasEmpty 19 = .ok (.iload 5, 2) := by decide +kernel
theorem dX8_hasEmpty_21 : decode cX8_hasEmpty 21 = .ok (.sipush 160, 3) := by decide +kernel
theorem dX8_hasEmpty_24 : decode cX8_hasEmpty 24 = .ok (.iload_n 1, 1) := by decide +kernel
theorem dX8_hasEmpty_25 : decode cX8_hasEmpty 25 = .ok (.imul, 1) := by decide +kernel
theorem dX8_hasEmpty_26 : decode cX8_hasEmpty 26 = .ok (.aload_n 0, 1) := by decide +kernel
theorem dX8_hasEmpty_27 : decode cX8_hasEmpty 27 = .ok (.getfield 19, 3) := by decide +kernel
theorem dX8_hasEmpty_30 : decode cX8_hasEmpty 30 = .ok (.iload_n 1, 1) := by decide +kernel
theorem dX8_hasEmpty_31 : decode cX8_hasEmpty 31 = .ok (.iaload, 1) := by decide +kernel
theorem dX8_hasEmpty_32 : decode cX8_hasEmpty 32 = .ok (.iadd, 1) := by decide +kernel
theorem dX8_hasEmpty_33 : decode cX8_hasEmpty 33 = .ok (.if_icmp .ge 78, 3) := by decide +kernel
theorem dX8_hasEmpty_36 : decode cX8_hasEmpty 36 = .ok (.iload_n 3, 1) := by decide +kernel
theorem dX8_hasEmpty_37 : decode cX8_hasEmpty 37 = .ok (.aload_n 0, 1) := by decide +kernel
theorem dX8_hasEmpty_38 : decode cX8_hasEmpty 38 = .ok (.getfield 22, 3) := by decide +kernel
theorem dX8_hasEmpty_41 : decode cX8_hasEmpty 41 = .ok (.iload 5, 2) := by decide +kernel
theorem dX8_hasEmpty_43 : decode cX8_hasEmpty 43 = .ok (.iaload, 1) := by decide +kernel
theorem dX8_hasEmpty_44 : decode cX8_hasEmpty 44 = .ok (.ishr, 1) := by decide +kernel
theorem dX8_hasEmpty_45 : decode cX8_hasEmpty 45 = .ok (.iconst 1, 1) := by decide +kernel
theorem dX8_hasEmpty_46 : decode cX8_hasEmpty 46 = .ok (.iand, 1) := by decide +kernel
theorem dX8_hasEmpty_47 : decode cX8_hasEmpty 47 = .ok (.iconst 1, 1) := by decide +kernel
theorem dX8_hasEmpty_48 : decode cX8_hasEmpty 48 = .ok (.if_icmp .ne 33, 3) := by decide +kernel
theorem dX8_hasEmpty_51 : decode cX8_hasEmpty 51 = .ok (.iload_n 2, 1) := by decide +kernel
theorem dX8_hasEmpty_52 : decode cX8_hasEmpty 52 = .ok (.ifCond .eq 13, 3) := by decide +kernel
theorem dX8_hasEmpty_55 : decode cX8_hasEmpty 55 = .ok (.aload_n 0, 1) := by decide +kernel
theorem dX8_hasEmpty_56 : decode cX8_hasEmpty 56 = .ok (.getfield 25, 3) := by decide +kernel
theorem dX8_hasEmpty_59 : decode cX8_hasEmpty 59 = .ok (.iload 5, 2) := by decide +kernel
theorem dX8_hasEmpty_61 : decode cX8_hasEmpty 61 = .ok (.iaload, 1) := by decide +kernel
theorem dX8_hasEmpty_62 : decode cX8_hasEmpty 62 = .ok (.goto 10, 3) := by decide +kernel
theorem dX8_hasEmpty_65 : decode cX8_hasEmpty 65 = .ok (.aload_n 0, 1) := by decide +kernel
theorem dX8_hasEmpty_66 : decode cX8_hasEmpty 66 = .ok (.getfield 28, 3) := by decide +kernel
theorem dX8_hasEmpty_69 : decode cX8_hasEmpty 69 = .ok (.iload 5, 2) := by decide +kernel
theorem dX8_hasEmpty_71 : decode cX8_hasEmpty 71 = .ok (.iaload, 1) := by decide +kernel
theorem dX8_hasEmpty_72 : decode cX8_hasEmpty 72 = .ok (.bipush 8, 2) := by decide +kernel
theorem dX8_hasEmpty_74 : decode cX8_hasEmpty 74 = .ok (.if_icmp .ne 7, 3) := by decide +kernel
theorem dX8_hasEmpty_77 : decode cX8_hasEmpty 77 = .ok (.iconst 1, 1) := by decide +kernel
theorem dX8_hasEmpty_78 : decode cX8_hasEmpty 78 = .ok (.goto 4, 3) := by decide +kernel
theorem dX8_hasEmpty_81 : decode cX8_hasEmpty 81 = .ok (.iconst 0, 1) := by decide +kernel
theorem dX8_hasEmpty_82 : decode cX8_hasEmpty 82 = .ok (.istore 6, 2) := by decide +kernel
theorem dX8_hasEmpty_84 : decode cX8_hasEmpty 84 = .ok (.iload_n 3, 1) := by decide +kernel
theorem dX8_hasEmpty_85 : decode cX8_hasEmpty 85 = .ok (.iload 6, 2) := by decide +kernel
theorem dX8_hasEmpty_87 : decode cX8_hasEmpty 87 = .ok (.ifCond .eq 15, 3) := by decide +kernel
theorem dX8_hasEmpty_90 : decode cX8_hasEmpty 90 = .ok (.iconst 1, 1) := by decide +kernel
theorem dX8_hasEmpty_91 : decode cX8_hasEmpty 91 = .ok (.aload_n 0, 1) := by decide +kernel
theorem dX8_hasEmpty_92 : decode cX8_hasEmpty 92 = .ok (.getfield 34, 3) := by decide +kernel
theorem dX8_hasEmpty_95 : decode cX8_hasEmpty 95 = .ok (.iload 5, 2) := by decide +kernel
theorem dX8_hasEmpty_97 : decode cX8_hasEmpty 97 = .ok (.iaload, 1) := by decide +kernel
theorem dX8_hasEmpty_98 : decode cX8_hasEmpty 98 = .ok (.ishl, 1) := by decide +kernel
theorem dX8_hasEmpty_99 : decode cX8_hasEmpty 99 = .ok (.goto 4, 3) := by decide +kernel
theorem dX8_hasEmpty_102 : decode cX8_hasEmpty 102 = .ok (.iconst 0, 1) := by decide +kernel
theorem dX8_hasEmpty_103 : decode cX8_hasEmpty 103 = .ok (.ior, 1) := by decide +kernel
theorem dX8_hasEmpty_104 : decode cX8_hasEmpty 104 = .ok (.istore_n 3, 1) := by decide +kernel
theorem dX8_hasEmpty_105 : decode cX8_hasEmpty 105 = .ok (.iinc 5 1, 3) := by decide +kernel
theorem dX8_hasEmpty_108 : decode cX8_hasEmpty 108 = .ok (.goto (-89), 3) := by decide +kernel
theorem dX8_hasEmpty_111 : decode cX8_hasEmpty 111 = .ok (.iinc 4 1, 3) := by decide +kernel
theorem dX8_hasEmpty_114 : decode cX8_hasEmpty 114 = .ok (.goto (-109), 3) := by decide +kernel
theorem dX8_hasEmpty_117 : decode cX8_hasEmpty 117 = .ok (.iload_n 3, 1) := by decide +kernel
theorem dX8_hasEmpty_118 : decode cX8_hasEmpty 118 = .ok (.aload_n 0, 1) := by decide +kernel
theorem dX8_hasEmpty_119 : decode cX8_hasEmpty 119 = .ok (.getfield 16, 3) := by decide +kernel
theorem dX8_hasEmpty_122 : decode cX8_hasEmpty 122 = .ok (.iload_n 1, 1) := by decide +kernel
theorem dX8_hasEmpty_123 : decode cX8_hasEmpty 123 = .ok (.iaload, 1) := by decide +kernel
theorem dX8_hasEmpty_124 : decode cX8_hasEmpty 124 = .ok (.iand, 1) := by decide +kernel
theorem dX8_hasEmpty_125 : decode cX8_hasEmpty 125 = .ok (.ifCond .eq 7, 3) := by decide +kernel
theorem dX8_hasEmpty_128 : decode cX8_hasEmpty 128 = .ok (.iconst 1, 1) := by decide +kernel
theorem dX8_hasEmpty_129 : decode cX8_hasEmpty 129 = .ok (.goto 4, 3) := by decide +kernel
theorem dX8_hasEmpty_132 : decode cX8_hasEmpty 132 = .ok (.iconst 0, 1) := by decide +kernel
theorem dX8_hasEmpty_133 : decode cX8_hasEmpty 133 = .ok (.ireturn, 1) := by decide +kernel
set_option maxRecDepth 20000 in
theorem ggX8_repeats_X8_begins : GoodIn wsX8_repeats wsX8_begins := goodIn_r _ [7, 8, 2, 64, 65, 66, 67, 68, 69, 70, 71, 72, 73, 74, 75, 76, 77, 78, 79, 80, 81, 82, 83, 84, 85, 86, 87, 88, 89, 90, 91, 92, 93, 94, 95, 96, 97, 98, 99, 100, 101, 102, 103, 104, 105, 106, 107, 108, 109, 110] rfl (by decide +kernel)
set_option maxRecDepth 20000 in
theorem gX8_repeats_X8_begins : GoodIn wsX8_repeats (wsV RX8 188 RX8 yX8_begins wsX8_begins) := goodIn_app (goodIn_of _ (by decide +kernel)) ggX8_repeats_X8_begins
set_option maxRecDepth 20000 in
theorem ggX8_repeats_X8_puts : GoodIn wsX8_repeats wsX8_puts := goodIn_r _ [12, 13, 14, 15, 16, 17, 18, 19, 20, 21, 6, 22, 23, 8, 24, 64, 65, 66, 67, 68, 69, 70, 71, 72, 73, 74, 75, 76, 77, 78, 79, 80, 81, 82, 83, 84, 85, 86, 87, 88, 89, 90, 91, 92, 93, 94, 95, 96, 97, 98, 99, 100, 101, 102, 103, 104, 105, 106, 107, 108, 109, 110] rfl (by decide +kernel)
set_option maxRecDepth 20000 in
theorem gX8_repeats_X8_puts : GoodIn wsX8_repeats (wsV RX8 198 RX8 yX8_puts wsX8_puts) := goodIn_app (goodIn_of _ (by decide +kernel)) ggX8_repeats_X8_puts
set_option maxRecDepth 20000 in
theorem ggX8_repeats_X8_adds : GoodIn wsX8_repeats wsX8_adds := goodIn_r _ [22, 23, 8, 24, 64, 65, 66, 67, 68, 69, 70, 71, 72, 73, 74, 75, 76, 77, 78, 79, 80, 81, 82, 83, 84, 85, 86, 87, 88, 89, 90, 91, 92, 93, 94, 95, 96, 97, 98, 99, 100, 101, 102, 103, 104, 105, 106, 107, 108, 109, 110] rfl (by decide +kernel)
set_option maxRecDepth 20000 in
theorem gX8_repeats_X8_adds : GoodIn wsX8_repeats (wsV RX8 180 RX8 yX8_adds wsX8_adds) := goodIn_app (goodIn_of _ (by decide +kernel)) ggX8_repeats_X8_adds
set_option maxRecDepth 20000 in
theorem ggX8_repeats_X8_isEndOf : GoodIn wsX8_repeats wsX8_isEndOf := goodIn_r _ [28, 29, 64, 65, 66, 67, 68, 69, 70, 71, 72, 73, 74, 75, 76, 77, 78, 79, 80, 81, 82, 83, 84, 85, 86, 87, 88, 89, 90, 91, 92, 93, 94, 95, 96, 97, 98, 99, 100, 101, 102, 103, 104, 105, 106, 107, 108, 109, 110] rfl (by decide +kernel)
set_option maxRecDepth 20000 in
theorem gX8_repeats_X8_isEndOf : GoodIn wsX8_repeats (wsV RX8 201 RX8 yX8_isEndOf wsX8_isEndOf) := goodIn_app (goodIn_of _ (by decide +kernel)) ggX8_repeats_X8_isEndOf
set_option maxRecDepth 20000 in
theorem ggX8_repeats_X8_trims : GoodIn wsX8_repeats wsX8_trims := goodIn_r _ [33, 34, 35, 36, 37, 38, 23, 39, 40, 41, 42, 24, 43, 44, 2, 45, 46, 47, 6, 48, 49, 8, 50, 51, 52, 53, 54, 55, 56, 57, 58, 59, 60, 61, 62, 63, 64, 65, 66, 67, 68, 69, 70, 71, 72, 73, 74, 75, 76, 77, 78, 79, 80, 81, 82, 83, 84, 85, 86, 87, 88, 89, 90, 91, 92, 93, 94, 95, 96, 97, 98, 99, 100, 101, 102, 103, 104, 105, 106, 107, 108, 109, 110] rfl (by decide +kernel)
set_option maxRecDepth 20000 in
theorem gX8_repeats_X8_trims : GoodIn wsX8_repeats (wsV RX8 191 RX8 yX8_trims wsX8_trims) := goodIn_app (goodIn_of _ (by decide +kernel)) ggX8_repeats_X8_trims
theorem dX8_repeats_0 : decode cX8_repeats 0 = .ok (.aload_n 0, 1) := by decide +kernel
theorem dX8_repeats_1 : decode cX8_repeats 1 = .ok (.invokevirtual 188, 3) := by decide +kernel
theorem dX8_repeats_4 : decode cX8_repeats 4 = .ok (.aload_n 0, 1) := by decide +kernel
theorem dX8_repeats_5 : decode cX8_repeats 5 = .ok (.iload_n 1, 1) := by decide +kernel
theorem dX8_repeats_6 : decode cX8_repeats 6 = .ok (.iconst 0, 1) := by decide +kernel
theorem dX8_repeats_7 : decode cX8_repeats 7 = .ok (.invokevirtual 198, 3) := by decide +kernel
theorem dX8_repeats_10 : decode cX8_repeats 10 = .ok (.aload_n 0, 1) := by decide +kernel
theorem dX8_repeats_11 : decode cX8_repeats 11 = .ok (.getfield 13, 3) := by decide +kernel
theorem dX8_repeats_14 : decode cX8_repeats 14 = .ok (.iload_n 1, 1) := by decide +kernel
theorem dX8_repeats_15 : decode cX8_repeats 15 = .ok (.iaload, 1) := by decide +kernel
theorem dX8_repeats_16 : decode cX8_repeats 16 = .ok (.istore_n 2, 1) := by decide +kernel
theorem dX8_repeats_17 : decode cX8_repeats 17 = .ok (.aload_n 0, 1) := by decide +kernel
theorem dX8_repeats_18 : decode cX8_repeats 18 = .ok (.iload_n 2, 1) := by decide +kernel
theorem dX8_repeats_19 : decode cX8_repeats 19 = .ok (.bipush 8, 2) := by decide +kernel
theorem dX8_repeats_21 : decode cX8_repeats 21 = .ok (.bipush 8, 2) := by decide +kernel
theorem dX8_repeats_23 : decode cX8_repeats 23 = .ok (.iconst 0, 1) := by decide +kernel
theorem dX8_repeats_24 : decode cX8_repeats 24 = .ok (.iconst 0, 1) := by decide +kernel
theorem dX8_repeats_25 : decode cX8_repeats 25 = .ok (.invokevirtual 180, 3) := by decide +kernel
theorem dX8_repeats_28 : decode cX8_repeats 28 = .ok (.iconst 0, 1) := by decide +kernel
theorem dX8_repeats_29 : decode cX8_repeats 29 = .ok (.istore_n 3, 1) := by decide +kernel
theorem dX8_repeats_30 : decode cX8_repeats 30 = .ok (.iload_n 3, 1) := by decide +kernel
theorem dX8_repeats_31 : decode cX8_repeats 31 = .ok (.iload_n 2, 1) := by decide +kernel
theorem dX8_repeats_32 : decode cX8_repeats 32 = .ok (.if_icmp .ge 29, 3) := by decide +kernel
theorem dX8_repeats_35 : decode cX8_repeats 35 = .ok (.aload_n 0, 1) := by decide +kernel
theorem dX8_repeats_36 : decode cX8_repeats 36 = .ok (.iload_n 1, 1) := by decide +kernel
theorem dX8_repeats_37 : decode cX8_repeats 37 = .ok (.iload_n 3, 1) := by decide +kernel
theorem dX8_repeats_38 : decode cX8_repeats 38 = .ok (.invokevirtual 201, 3) := by decide +kernel
theorem dX8_repeats_41 : decode cX8_repeats 41 = .ok (.ifCond .eq 14, 3) := by decide +kernel
theorem dX8_repeats_44 : decode cX8_repeats 44 = .ok (.aload_n 0, 1) := by decide +kernel
theorem dX8_repeats_45 : decode cX8_repeats 45 = .ok (.iload_n 3, 1) := by decide +kernel
theorem dX8_repeats_46 : decode cX8_repeats 46 = .ok (.bipush 8, 2) := by decide +kernel
theorem dX8_repeats_48 : decode cX8_repeats 48 = .ok (.bipush 8, 2) := by decide +kernel
theorem dX8_repeats_50 : decode cX8_repeats 50 = .ok (.iconst 0, 1) := by decide +kernel
theorem dX8_repeats_51 : decode cX8_repeats 51 = .ok (.iload_n 2, 1) := by decide +kernel
theorem dX8_repeats_52 : decode cX8_repeats 52 = .ok (.invokevirtual 180, 3) := by decide +kernel
theorem dX8_repeats_55 : decode cX8_repeats 55 = .ok (.iinc 3 1, 3) := by decide +kernel
theorem dX8_repeats_58 : decode cX8_repeats 58 = .ok (.goto (-28), 3) := by decide +kernel
theorem dX8_repeats_61 : decode cX8_repeats 61 = .ok (.aload_n 0, 1) := by decide +kernel
theorem dX8_repeats_62 : decode cX8_repeats 62 = .ok (.getfield 44, 3) := by decide +kernel
theorem dX8_repeats_65 : decode cX8_repeats 65 = .ok (.iload_n 2, 1) := by decide +kernel
theorem dX8_repeats_66 : decode cX8_repeats 66 = .ok (.iconst 1, 1) := by decide +kernel
theorem dX8_repeats_67 : decode cX8_repeats 67 = .ok (.bastore, 1) := by decide +kernel
theorem dX8_repeats_68 : decode cX8_repeats 68 = .ok (.aload_n 0, 1) := by decide +kernel
theorem dX8_repeats_69 : decode cX8_repeats 69 = .ok (.iload_n 2, 1) := by decide +kernel
theorem dX8_repeats_70 : decode cX8_repeats 70 = .ok (.invokevirtual 191, 3) := by decide +kernel
theorem dX8_repeats_73 : decode cX8_repeats 73 = .ok (.ireturn, 1) := by decide +kernel
set_option maxRecDepth 20000 in
theorem ggX8_repeat_X8_isMachine : GoodIn wsX8_repeat wsX8_isMachine := goodIn_r _ [5, 6, 7, 8, 4, 9, 101, 102, 103, 104, 105, 106, 107, 108, 109, 110, 111, 112, 113, 114, 115, 116, 117, 118, 119, 120, 121, 122, 123, 124, 125, 126, 127, 128, 129, 130, 131, 132, 133, 134, 135, 136, 137, 138, 139, 140, 141, 142, 143, 144, 145, 146, 147] rfl (by decide +kernel)
set_option maxRecDepth 20000 in
theorem gX8_repeat_X8_isMachine : GoodIn wsX8_repeat (wsV RX8 204 RX8 yX8_isMachine wsX8_isMachine) := goodIn_app (goodIn_of _ (by decide +kernel)) ggX8_repeat_X8_isMachine
set_option maxRecDepth 20000 in
theorem ggX8_repeat_X8_isThere : GoodIn wsX8_repeat wsX8_isThere := goodIn_r _ [13, 6, 101, 102, 103, 104, 105, 106, 107, 108, 109, 110, 111, 112, 113, 114, 115, 116, 117, 118, 119, 120, 121, 122, 123, 124, 125, 126, 127, 128, 129, 130, 131, 132, 133, 134, 135, 136, 137, 138, 139, 140, 141, 142, 143, 144, 145, 146, 147] rfl (by decide +kernel)
set_option maxRecDepth 20000 in
theorem gX8_repeat_X8_isThere : GoodIn wsX8_repeat (wsV RX8 184 RX8 yX8_isThere wsX8_isThere) := goodIn_app (goodIn_of _ (by decide +kernel)) ggX8_repeat_X8_isThere
set_option maxRecDepth 20000 in
theorem ggX8_repeat_X8_hasEmpty : GoodIn wsX8_repeat wsX8_hasEmpty := goodIn_r _ [17, 18, 19, 20, 21, 22, 23, 101, 102, 103, 104, 105, 106, 107, 108, 109, 110, 111, 112, 113, 114, 115, 116, 117, 118, 119, 120, 121, 122, 123, 124, 125, 126, 127, 128, 129, 130, 131, 132, 133, 134, 135, 136, 137, 138, 139, 140, 141, 142, 143, 144, 145, 146, 147] rfl (by decide +kernel)
set_option maxRecDepth 20000 in
theorem gX8_repeat_X8_hasEmpty : GoodIn wsX8_repeat (wsV RX8 213 RX8 yX8_hasEmpty wsX8_hasEmpty) := goodIn_app (goodIn_of _ (by decide +kernel)) ggX8_repeat_X8_hasEmpty
set_option maxRecDepth 20000 in
theorem ggX8_repeat_X8_repeats : GoodIn wsX8_repeat wsX8_repeats := goodIn_r _ [27, 28, 29, 30, 31, 32, 4, 33, 34, 35, 36, 37, 38, 18, 19, 20, 21, 39, 22, 40, 41, 42, 43, 44, 45, 46, 47, 48, 49, 23, 50, 51, 52, 53, 54, 55, 56, 57, 58, 59, 60, 61, 62, 63, 64, 65, 66, 67, 68, 69, 70, 71, 72, 73, 74, 75, 76, 77, 78, 79, 80, 81, 82, 83, 101, 102, 103, 104, 105, 106, 107, 108, 109, 110, 111, 112, 113, 114, 115, 116, 117, 118, 119, 120, 121, 122, 123, 124, 125, 126, 127, 128, 129, 130, 131, 132, 133, 134, 135, 136, 137, 138, 139, 140, 141, 142, 143, 144, 145, 146, 147] rfl (by decide +kernel)
set_option maxRecDepth 20000 in
theorem gX8_repeat_X8_repeats : GoodIn wsX8_repeat (wsV RX8 217 RX8 yX8_repeats wsX8_repeats) := goodIn_app (goodIn_of _ (by decide +kernel)) ggX8_repeat_X8_repeats
set_option maxRecDepth 20000 in
theorem ggX8_repeat_X8_isFine : GoodIn wsX8_repeat wsX8_isFine := goodIn_r _ [87, 88, 101, 102, 103, 104, 105, 106, 107, 108, 109, 110, 111, 112, 113, 114, 115, 116, 117, 118, 119, 120, 121, 122, 123, 124, 125, 126, 127, 128, 129, 130, 131, 132, 133, 134, 135, 136, 137, 138, 139, 140, 141, 142, 143, 144, 145, 146, 147] rfl (by decide +kernel)
set_option maxRecDepth 20000 in
theorem gX8_repeat_X8_isFine : GoodIn wsX8_repeat (wsV RX8 138 RX8 yX8_isFine wsX8_isFine) := goodIn_app (goodIn_of _ (by decide +kernel)) ggX8_repeat_X8_isFine
set_option maxRecDepth 20000 in
theorem ggX8_repeat_X8_keeps : GoodIn wsX8_repeat wsX8_keeps := goodIn_r _ [92, 56, 6, 28, 55, 23, 64, 18, 19, 59, 20, 60, 21, 61, 39, 62, 22, 63, 93, 94, 95, 4, 96, 97, 98, 99, 100, 101, 102, 103, 104, 105, 106, 107, 108, 109, 110, 111, 112, 113, 114, 115, 116, 117, 118, 119, 120, 121, 122, 123, 124, 125, 126, 127, 128, 129, 130, 131, 132, 133, 134, 135, 136, 137, 138, 139, 140, 141, 142, 143, 144, 145, 146, 147] rfl (by decide +kernel)
set_option maxRecDepth 20000 in
theorem gX8_repeat_X8_keeps : GoodIn wsX8_repeat (wsV RX8 194 RX8 yX8_keeps wsX8_keeps) := goodIn_app (goodIn_of _ (by decide +kernel)) ggX8_repeat_X8_keeps
theorem dX8_repeat_0 : decode cX8_repeat 0 = .ok (.aload_n 0, 1) := by decide +kernel
theorem dX8_repeat_1 : decode cX8_repeat 1 = .ok (.iload_n 1, 1) := by decide +kernel
theorem dX8_repeat_2 : decode cX8_repeat 2 = .ok (.invokevirtual 204, 3) := by decide +kernel
theorem dX8_repeat_5 : decode cX8_repeat 5 = .ok (.istore_n 2, 1) := by decide +kernel
theorem dX8_repeat_6 : decode cX8_repeat 6 = .ok (.iload_n 2, 1) := by decide +kernel
theorem dX8_repeat_7 : decode cX8_repeat 7 = .ok (.ifCond .eq 32, 3) := by decide +kernel
theorem dX8_repeat_10 : decode cX8_repeat 10 = .ok (.aload_n 0, 1) := by decide +kernel
theorem dX8_repeat_11 : decode cX8_repeat 11 = .ok (.invokevirtual 184, 3) := by decide +kernel
theorem dX8_repeat_14 : decode cX8_repeat 14 = .ok (.ifCond .eq 25, 3) := by decide +kernel
theorem dX8_repeat_17 : decode cX8_repeat 17 = .ok (.aload_n 0, 1) := by decide +kernel
theorem dX8_repeat_18 : decode cX8_repeat 18 = .ok (.iload_n 1, 1) := by decide +kernel
theorem dX8_repeat_19 : decode cX8_repeat 19 = .ok (.iconst 1, 1) := by decide +kernel
theorem dX8_repeat_20 : decode cX8_repeat 20 = .ok (.invokevirtual 213, 3) := by decide +kernel
theorem dX8_repeat_23 : decode cX8_repeat 23 = .ok (.ifCond .ne 16, 3) := by decide +kernel
theorem dX8_repeat_26 : decode cX8_repeat 26 = .ok (.aload_n 0, 1) := by decide +kernel
theorem dX8_repeat_27 : decode cX8_repeat 27 = .ok (.iload_n 1, 1) := by decide +kernel
theorem dX8_repeat_28 : decode cX8_repeat 28 = .ok (.iconst 0, 1) := by decide +kernel
theorem dX8_repeat_29 : decode cX8_repeat 29 = .ok (.invokevirtual 213, 3) := by decide +kernel
theorem dX8_repeat_32 : decode cX8_repeat 32 = .ok (.ifCond .ne 7, 3) := by decide +kernel
theorem dX8_repeat_35 : decode cX8_repeat 35 = .ok (.iconst 1, 1) := by decide +kernel
theorem dX8_repeat_36 : decode cX8_repeat 36 = .ok (.goto 4, 3) := by decide +kernel
theorem dX8_repeat_39 : decode cX8_repeat 39 = .ok (.iconst 0, 1) := by decide +kernel
theorem dX8_repeat_40 : decode cX8_repeat 40 = .ok (.istore_n 3, 1) := by decide +kernel
theorem dX8_repeat_41 : decode cX8_repeat 41 = .ok (.aload_n 0, 1) := by decide +kernel
theorem dX8_repeat_42 : decode cX8_repeat 42 = .ok (.iload_n 2, 1) := by decide +kernel
theorem dX8_repeat_43 : decode cX8_repeat 43 = .ok (.ifCond .ne 7, 3) := by decide +kernel
theorem dX8_repeat_46 : decode cX8_repeat 46 = .ok (.iconst 1, 1) := by decide +kernel
theorem dX8_repeat_47 : decode cX8_repeat 47 = .ok (.goto 20, 3) := by decide +kernel
theorem dX8_repeat_50 : decode cX8_repeat 50 = .ok (.iload_n 3, 1) := by decide +kernel
theorem dX8_repeat_51 : decode cX8_repeat 51 = .ok (.ifCond .eq 11, 3) := by decide +kernel
theorem dX8_repeat_54 : decode cX8_repeat 54 = .ok (.aload_n 0, 1) := by decide +kernel
theorem dX8_repeat_55 : decode cX8_repeat 55 = .ok (.iload_n 1, 1) := by decide +kernel
theorem dX8_repeat_56 : decode cX8_repeat 56 = .ok (.invokevirtual 217, 3) := by decide +kernel
theorem dX8_repeat_59 : decode cX8_repeat 59 = .ok (.ifCond .ne 7, 3) := by decide +kernel
theorem dX8_repeat_62 : decode cX8_repeat 62 = .ok (.iconst 2, 1) := by decide +kernel
theorem dX8_repeat_63 : decode cX8_repeat 63 = .ok (.goto 4, 3) := by decide +kernel
theorem dX8_repeat_66 : decode cX8_repeat 66 = .ok (.iconst 0, 1) := by decide +kernel
theorem dX8_repeat_67 : decode cX8_repeat 67 = .ok (.invokevirtual 138, 3) := by decide +kernel
theorem dX8_repeat_70 : decode cX8_repeat 70 = .ok (.ifCond .ne 5, 3) := by decide +kernel
theorem dX8_repeat_73 : decode cX8_repeat 73 = .ok (.iconst 0, 1) := by decide +kernel
theorem dX8_repeat_74 : decode cX8_repeat 74 = .ok (.ireturn, 1) := by decide +kernel
theorem dX8_repeat_75 : decode cX8_repeat 75 = .ok (.aload_n 0, 1) := by decide +kernel
theorem dX8_repeat_76 : decode cX8_repeat 76 = .ok (.invokevirtual 194, 3) := by decide +kernel
theorem dX8_repeat_79 : decode cX8_repeat 79 = .ok (.ireturn, 1) := by decide +kernel
set_option maxRecDepth 20000 in
theorem ggX8_turns_X8_begins : GoodIn wsX8_turns wsX8_begins := goodIn_r _ [13, 14, 8, 60, 61, 62, 63, 64, 65, 66, 67, 68, 69, 70, 71, 72, 73, 74, 75, 76, 77, 78, 79, 80, 81, 82, 83, 84, 85, 86, 87, 88, 89, 90, 91, 92, 93, 94, 95, 96, 97, 98, 99, 100, 101, 102, 103, 104, 105, 106] rfl (by decide +kernel)
set_option maxRecDepth 20000 in
theorem gX8_turns_X8_begins : GoodIn wsX8_turns (wsV RX8 188 RX8 yX8_begins wsX8_begins) := goodIn_app (goodIn_of _ (by decide +kernel)) ggX8_turns_X8_begins
set_option maxRecDepth 20000 in
theorem ggX8_turns_X8_adds : GoodIn wsX8_turns wsX8_adds := goodIn_r _ [18, 19, 14, 20, 60, 61, 62, 63, 64, 65, 66, 67, 68, 69, 70, 71, 72, 73, 74, 75, 76, 77, 78, 79, 80, 81, 82, 83, 84, 85, 86, 87, 88, 89, 90, 91, 92, 93, 94, 95, 96, 97, 98, 99, 100, 101, 102, 103, 104, 105, 106] rfl (by decide +kernel)
set_option maxRecDepth 20000 in
theorem gX8_turns_X8_adds : GoodIn wsX8_turns (wsV RX8 180 RX8 yX8_adds wsX8_adds) := goodIn_app (goodIn_of _ (by decide +kernel)) ggX8_turns_X8_adds
set_option maxRecDepth 20000 in
theorem ggX8_turns_X8_isEndOf : GoodIn wsX8_turns wsX8_isEndOf := goodIn_r _ [24, 25, 60, 61, 62, 63, 64, 65, 66, 67, 68, 69, 70, 71, 72, 73, 74, 75, 76, 77, 78, 79, 80, 81, 82, 83, 84, 85, 86, 87, 88, 89, 90, 91, 92, 93, 94, 95, 96, 97, 98, 99, 100, 101, 102, 103, 104, 105, 106] rfl (by decide +kernel)
set_option maxRecDepth 20000 in
theorem gX8_turns_X8_isEndOf : GoodIn wsX8_turns (wsV RX8 201 RX8 yX8_isEndOf wsX8_isEndOf) := goodIn_app (goodIn_of _ (by decide +kernel)) ggX8_turns_X8_isEndOf
set_option maxRecDepth 20000 in
theorem ggX8_turns_X8_trims : GoodIn wsX8_turns wsX8_trims := goodIn_r _ [29, 30, 31, 32, 33, 34, 19, 35, 36, 37, 38, 20, 39, 40, 8, 41, 42, 43, 12, 44, 45, 14, 46, 47, 48, 49, 50, 51, 52, 53, 54, 55, 56, 57, 58, 59, 60, 61, 62, 63, 64, 65, 66, 67, 68, 69, 70, 71, 72, 73, 74, 75, 76, 77, 78, 79, 80, 81, 82, 83, 84, 85, 86, 87, 88, 89, 90, 91, 92, 93, 94, 95, 96, 97, 98, 99, 100, 101, 102, 103, 104, 105, 106] rfl (by decide +kernel)
set_option maxRecDepth 20000 in
theorem gX8_turns_X8_trims : GoodIn wsX8_turns (wsV RX8 191 RX8 yX8_trims wsX8_trims) := goodIn_app (goodIn_of _ (by decide +kernel)) ggX8_turns_X8_trims
theorem dX8_turns_0 : decode cX8_turns 0 = .ok (.aload_n 0, 1) := by decide +kernel
theorem dX8_turns_1 : decode cX8_turns 1 = .ok (.invokevirtual 188, 3) := by decide +kernel
theorem dX8_turns_4 : decode cX8_turns 4 = .ok (.sipush 160, 3) := by decide +kernel
theorem dX8_turns_7 : decode cX8_turns 7 = .ok (.iload_n 1, 1) := by decide +kernel
theorem dX8_turns_8 : decode cX8_turns 8 = .ok (.imul, 1) := by decide +kernel
theorem dX8_turns_9 : decode cX8_turns 9 = .ok (.istore_n 2, 1) := by decide +kernel
theorem dX8_turns_10 : decode cX8_turns 10 = .ok (.iload_n 2, 1) := by decide +kernel
theorem dX8_turns_11 : decode cX8_turns 11 = .ok (.sipush 160, 3) := by decide +kernel
theorem dX8_turns_14 : decode cX8_turns 14 = .ok (.iload_n 1, 1) := by decide +kernel
theorem dX8_turns_15 : decode cX8_turns 15 = .ok (.imul, 1) := by decide +kernel
theorem dX8_turns_16 : decode cX8_turns 16 = .ok (.aload_n 0, 1) := by decide +kernel
theorem dX8_turns_17 : decode cX8_turns 17 = .ok (.getfield 19, 3) := by decide +kernel
theorem dX8_turns_20 : decode cX8_turns 20 = .ok (.iload_n 1, 1) := by decide +kernel
theorem dX8_turns_21 : decode cX8_turns 21 = .ok (.iaload, 1) := by decide +kernel
theorem dX8_turns_22 : decode cX8_turns 22 = .ok (.iadd, 1) := by decide +kernel
theorem dX8_turns_23 : decode cX8_turns 23 = .ok (.if_icmp .ge 43, 3) := by decide +kernel
theorem dX8_turns_26 : decode cX8_turns 26 = .ok (.aload_n 0, 1) := by decide +kernel
theorem dX8_turns_27 : decode cX8_turns 27 = .ok (.aload_n 0, 1) := by decide +kernel
theorem dX8_turns_28 : decode cX8_turns 28 = .ok (.getfield 22, 3) := by decide +kernel
theorem dX8_turns_31 : decode cX8_turns 31 = .ok (.iload_n 2, 1) := by decide +kernel
theorem dX8_turns_32 : decode cX8_turns 32 = .ok (.iaload, 1) := by decide +kernel
theorem dX8_turns_33 : decode cX8_turns 33 = .ok (.aload_n 0, 1) := by decide +kernel
theorem dX8_turns_34 : decode cX8_turns 34 = .ok (.getfield 28, 3) := by decide +kernel
theorem dX8_turns_37 : decode cX8_turns 37 = .ok (.iload_n 2, 1) := by decide +kernel
theorem dX8_turns_38 : decode cX8_turns 38 = .ok (.iaload, 1) := by decide +kernel
theorem dX8_turns_39 : decode cX8_turns 39 = .ok (.aload_n 0, 1) := by decide +kernel
theorem dX8_turns_40 : decode cX8_turns 40 = .ok (.getfield 25, 3) := by decide +kernel
theorem dX8_turns_43 : decode cX8_turns 43 = .ok (.iload_n 2, 1) := by decide +kernel
theorem dX8_turns_44 : decode cX8_turns 44 = .ok (.iaload, 1) := by decide +kernel
theorem dX8_turns_45 : decode cX8_turns 45 = .ok (.aload_n 0, 1) := by decide +kernel
theorem dX8_turns_46 : decode cX8_turns 46 = .ok (.getfield 31, 3) := by decide +kernel
theorem dX8_turns_49 : decode cX8_turns 49 = .ok (.iload_n 2, 1) := by decide +kernel
theorem dX8_turns_50 : decode cX8_turns 50 = .ok (.iaload, 1) := by decide +kernel
theorem dX8_turns_51 : decode cX8_turns 51 = .ok (.aload_n 0, 1) := by decide +kernel
theorem dX8_turns_52 : decode cX8_turns 52 = .ok (.getfield 34, 3) := by decide +kernel
theorem dX8_turns_55 : decode cX8_turns 55 = .ok (.iload_n 2, 1) := by decide +kernel
theorem dX8_turns_56 : decode cX8_turns 56 = .ok (.iaload, 1) := by decide +kernel
theorem dX8_turns_57 : decode cX8_turns 57 = .ok (.invokevirtual 180, 3) := by decide +kernel
theorem dX8_turns_60 : decode cX8_turns 60 = .ok (.iinc 2 1, 3) := by decide +kernel
theorem dX8_turns_63 : decode cX8_turns 63 = .ok (.goto (-53), 3) := by decide +kernel
theorem dX8_turns_66 : decode cX8_turns 66 = .ok (.iconst 0, 1) := by decide +kernel
theorem dX8_turns_67 : decode cX8_turns 67 = .ok (.istore_n 2, 1) := by decide +kernel
theorem dX8_turns_68 : decode cX8_turns 68 = .ok (.iload_n 2, 1) := by decide +kernel
theorem dX8_turns_69 : decode cX8_turns 69 = .ok (.aload_n 0, 1) := by decide +kernel
theorem dX8_turns_70 : decode cX8_turns 70 = .ok (.getfield 13, 3) := by decide +kernel
theorem dX8_turns_73 : decode cX8_turns 73 = .ok (.iload_n 1, 1) := by decide +kernel
theorem dX8_turns_74 : decode cX8_turns 74 = .ok (.iaload, 1) := by decide +kernel
theorem dX8_turns_75 : decode cX8_turns 75 = .ok (.if_icmp .ge 21, 3) := by decide +kernel
theorem dX8_turns_78 : decode cX8_turns 78 = .ok (.aload_n 0, 1) := by decide +kernel
theorem dX8_turns_79 : decode cX8_turns 79 = .ok (.getfield 44, 3) := by decide +kernel
theorem dX8_turns_82 : decode cX8_turns 82 = .ok (.iload_n 2, 1) := by decide +kernel
theorem dX8_turns_83 : decode cX8_turns 83 = .ok (.aload_n 0, 1) := by decide +kernel
theorem dX8_turns_84 : decode cX8_turns 84 = .ok (.iload_n 1, 1) := by decide +kernel
theorem dX8_turns_85 : decode cX8_turns 85 = .ok (.iload_n 2, 1) := by decide +kernel
theorem dX8_turns_86 : decode cX8_turns 86 = .ok (.invokevirtual 201, 3) := by decide +kernel
theorem dX8_turns_89 : decode cX8_turns 89 = .ok (.bastore, 1) := by decide +kernel
theorem dX8_turns_90 : decode cX8_turns 90 = .ok (.iinc 2 1, 3) := by decide +kernel
theorem dX8_turns_93 : decode cX8_turns 93 = .ok (.goto (-25), 3) := by decide +kernel
theorem dX8_turns_96 : decode cX8_turns 96 = .ok (.aload_n 0, 1) := by decide +kernel
theorem dX8_turns_97 : decode cX8_turns 97 = .ok (.iconst 0, 1) := by decide +kernel
theorem dX8_turns_98 : decode cX8_turns 98 = .ok (.invokevirtual 191, 3) := by decide +kernel
theorem dX8_turns_101 : decode cX8_turns 101 = .ok (.ireturn, 1) := by decide +kernel
set_option maxRecDepth 20000 in
theorem ggX8_turn_X8_isMachine : GoodIn wsX8_turn wsX8_isMachine := goodIn_r _ [5, 6, 7, 8, 4, 9, 93, 94, 95, 96, 97, 98, 99, 100, 101, 102, 103, 104, 105, 106, 107, 108, 109, 110, 111, 112, 113, 114, 115, 116, 117, 118, 119, 120, 121, 122, 123, 124, 125, 126, 127, 128, 129, 130, 131, 132, 133, 134, 135, 136, 137, 138, 139] rfl (by decide +kernel)
set_option maxRecDepth 20000 in
theorem gX8_turn_X8_isMachine : GoodIn wsX8_turn (wsV RX8 204 RX8 yX8_isMachine wsX8_isMachine) := goodIn_app (goodIn_of _ (by decide +kernel)) ggX8_turn_X8_isMachine
set_option maxRecDepth 20000 in
theorem ggX8_turn_X8_isThere : GoodIn wsX8_turn wsX8_isThere := goodIn_r _ [13, 6, 93, 94, 95, 96, 97, 98, 99, 100, 101, 102, 103, 104, 105, 106, 107, 108, 109, 110, 111, 112, 113, 114, 115, 116, 117, 118, 119, 120, 121, 122, 123, 124, 125, 126, 127, 128, 129, 130, 131, 132, 133, 134, 135, 136, 137, 138, 139] rfl (by decide +kernel)
set_option maxRecDepth 20000 in
theorem gX8_turn_X8_isThere : GoodIn wsX8_turn (wsV RX8 184 RX8 yX8_isThere wsX8_isThere) := goodIn_app (goodIn_of _ (by decide +kernel)) ggX8_turn_X8_isThere
set_option maxRecDepth 20000 in
theorem ggX8_turn_X8_turns : GoodIn wsX8_turn wsX8_turns := goodIn_r _ [17, 18, 19, 20, 21, 22, 23, 24, 25, 26, 27, 28, 4, 29, 30, 31, 32, 33, 34, 35, 36, 37, 38, 39, 40, 41, 42, 43, 44, 45, 46, 47, 48, 49, 50, 51, 52, 53, 54, 55, 56, 57, 58, 59, 60, 61, 62, 63, 64, 65, 66, 67, 68, 69, 70, 71, 72, 73, 74, 75, 93, 94, 95, 96, 97, 98, 99, 100, 101, 102, 103, 104, 105, 106, 107, 108, 109, 110, 111, 112, 113, 114, 115, 116, 117, 118, 119, 120, 121, 122, 123, 124, 125, 126, 127, 128, 129, 130, 131, 132, 133, 134, 135, 136, 137, 138, 139] rfl (by decide +kernel)
set_option maxRecDepth 20000 in
theorem gX8_turn_X8_turns : GoodIn wsX8_turn (wsV RX8 220 RX8 yX8_turns wsX8_turns) := goodIn_app (goodIn_of _ (by decide +kernel)) ggX8_turn_X8_turns
set_option maxRecDepth 20000 in
theorem ggX8_turn_X8_isFine : GoodIn wsX8_turn wsX8_isFine := goodIn_r _ [79, 80, 93, 94, 95, 96, 97, 98, 99, 100, 101, 102, 103, 104, 105, 106, 107, 108, 109, 110, 111, 112, 113, 114, 115, 116, 117, 118, 119, 120, 121, 122, 123, 124, 125, 126, 127, 128, 129, 130, 131, 132, 133, 134, 135, 136, 137, 138, 139] rfl (by decide +kernel)
set_option maxRecDepth 20000 in
theorem gX8_turn_X8_isFine : GoodIn wsX8_turn (wsV RX8 138 RX8 yX8_isFine wsX8_isFine) := goodIn_app (goodIn_of _ (by decide +kernel)) ggX8_turn_X8_isFine
set_option maxRecDepth 20000 in
theorem ggX8_turn_X8_keeps : GoodIn wsX8_turn wsX8_keeps := goodIn_r _ [84, 48, 6, 24, 47, 41, 56, 18, 19, 51, 21, 52, 20, 53, 22, 54, 23, 55, 85, 86, 87, 4, 88, 89, 90, 91, 92, 93, 94, 95, 96, 97, 98, 99, 100, 101, 102, 103, 104, 105, 106, 107, 108, 109, 110, 111, 112, 113, 114, 115, 116, 117, 118, 119, 120, 121, 122, 123, 124, 125, 126, 127, 128, 129, 130, 131, 132, 133, 134, 135, 136, 137, 138, 139] rfl (by decide +kernel)
set_option maxRecDepth 20000 in
theorem gX8_turn_X8_keeps : GoodIn wsX8_turn (wsV RX8 194 RX8 yX8_keeps wsX8_keeps) := goodIn_app (goodIn_of _ (by decide +kernel)) ggX8_turn_X8_keeps
theorem dX8_turn_0 : decode cX8_turn 0 = .ok (.aload_n 0, 1) := by decide +kernel
theorem dX8_turn_1 : decode cX8_turn 1 = .ok (.iload_n 1, 1) := by decide +kernel
theorem dX8_turn_2 : decode cX8_turn 2 = .ok (.invokevirtual 204, 3) := by decide +kernel
theorem dX8_turn_5 : decode cX8_turn 5 = .ok (.istore_n 2, 1) := by decide +kernel
theorem dX8_turn_6 : decode cX8_turn 6 = .ok (.aload_n 0, 1) := by decide +kernel
theorem dX8_turn_7 : decode cX8_turn 7 = .ok (.iload_n 2, 1) := by decide +kernel
theorem dX8_turn_8 : decode cX8_turn 8 = .ok (.ifCond .ne 7, 3) := by decide +kernel
theorem dX8_turn_11 : decode cX8_turn 11 = .ok (.iconst 1, 1) := by decide +kernel
theorem dX8_turn_12 : decode cX8_turn 12 = .ok (.goto 23, 3) := by decide +kernel
theorem dX8_turn_15 : decode cX8_turn 15 = .ok (.aload_n 0, 1) := by decide +kernel
theorem dX8_turn_16 : decode cX8_turn 16 = .ok (.invokevirtual 184, 3) := by decide +kernel
theorem dX8_turn_19 : decode cX8_turn 19 = .ok (.ifCond .eq 11, 3) := by decide +kernel
theorem dX8_turn_22 : decode cX8_turn 22 = .ok (.aload_n 0, 1) := by decide +kernel
theorem dX8_turn_23 : decode cX8_turn 23 = .ok (.iload_n 1, 1) := by decide +kernel
theorem dX8_turn_24 : decode cX8_turn 24 = .ok (.invokevirtual 220, 3) := by decide +kernel
theorem dX8_turn_27 : decode cX8_turn 27 = .ok (.ifCond .ne 7, 3) := by decide +kernel
theorem dX8_turn_30 : decode cX8_turn 30 = .ok (.iconst 2, 1) := by decide +kernel
theorem dX8_turn_31 : decode cX8_turn 31 = .ok (.goto 4, 3) := by decide +kernel
theorem dX8_turn_34 : decode cX8_turn 34 = .ok (.iconst 0, 1) := by decide +kernel
theorem dX8_turn_35 : decode cX8_turn 35 = .ok (.invokevirtual 138, 3) := by decide +kernel
theorem dX8_turn_38 : decode cX8_turn 38 = .ok (.ifCond .ne 5, 3) := by decide +kernel
theorem dX8_turn_41 : decode cX8_turn 41 = .ok (.iconst 0, 1) := by decide +kernel
theorem dX8_turn_42 : decode cX8_turn 42 = .ok (.ireturn, 1) := by decide +kernel
theorem dX8_turn_43 : decode cX8_turn 43 = .ok (.aload_n 0, 1) := by decide +kernel
theorem dX8_turn_44 : decode cX8_turn 44 = .ok (.invokevirtual 194, 3) := by decide +kernel
theorem dX8_turn_47 : decode cX8_turn 47 = .ok (.ireturn, 1) := by decide +kernel
set_option maxRecDepth 20000 in
theorem ggX8_composes_X8_begins : GoodIn wsX8_composes wsX8_begins := goodIn_r _ [14, 15, 9, 61, 62, 63, 64, 65, 66, 67, 68, 69, 70, 71, 72, 73, 74, 75, 76, 77, 78, 79, 80, 81, 82, 83, 84, 85, 86, 87, 88, 89, 90, 91, 92, 93, 94, 95, 96, 97, 98, 99, 100, 101, 102, 103, 104, 105, 106, 107] rfl (by decide +kernel)
set_option maxRecDepth 20000 in
theorem gX8_composes_X8_begins : GoodIn wsX8_composes (wsV RX8 188 RX8 yX8_begins wsX8_begins) := goodIn_app (goodIn_of _ (by decide +kernel)) ggX8_composes_X8_begins
set_option maxRecDepth 20000 in
theorem ggX8_composes_X8_adds : GoodIn wsX8_composes wsX8_adds := goodIn_r _ [19, 20, 15, 21, 61, 62, 63, 64, 65, 66, 67, 68, 69, 70, 71, 72, 73, 74, 75, 76, 77, 78, 79, 80, 81, 82, 83, 84, 85, 86, 87, 88, 89, 90, 91, 92, 93, 94, 95, 96, 97, 98, 99, 100, 101, 102, 103, 104, 105, 106, 107] rfl (by decide +kernel)
set_option maxRecDepth 20000 in
theorem gX8_composes_X8_adds : GoodIn wsX8_composes (wsV RX8 180 RX8 yX8_adds wsX8_adds) := goodIn_app (goodIn_of _ (by decide +kernel)) ggX8_composes_X8_adds
set_option maxRecDepth 20000 in
theorem ggX8_composes_X8_isEndOf : GoodIn wsX8_composes wsX8_isEndOf := goodIn_r _ [25, 26, 61, 62, 63, 64, 65, 66, 67, 68, 69, 70, 71, 72, 73, 74, 75, 76, 77, 78, 79, 80, 81, 82, 83, 84, 85, 86, 87, 88, 89, 90, 91, 92, 93, 94, 95, 96, 97, 98, 99, 100, 101, 102, 103, 104, 105, 106, 107] rfl (by decide +kernel)
set_option maxRecDepth 20000 in
theorem gX8_composes_X8_isEndOf : GoodIn wsX8_composes (wsV RX8 201 RX8 yX8_isEndOf wsX8_isEndOf) := goodIn_app (goodIn_of _ (by decide +kernel)) ggX8_composes_X8_isEndOf
set_option maxRecDepth 20000 in
theorem ggX8_composes_X8_trims : GoodIn wsX8_composes wsX8_trims := goodIn_r _ [30, 31, 32, 33, 34, 35, 20, 36, 37, 38, 39, 21, 40, 41, 9, 42, 43, 44, 13, 45, 46, 15, 47, 48, 49, 50, 51, 52, 53, 54, 55, 56, 57, 58, 59, 60, 61, 62, 63, 64, 65, 66, 67, 68, 69, 70, 71, 72, 73, 74, 75, 76, 77, 78, 79, 80, 81, 82, 83, 84, 85, 86, 87, 88, 89, 90, 91, 92, 93, 94, 95, 96, 97, 98, 99, 100, 101, 102, 103, 104, 105, 106, 107] rfl (by decide +kernel)
set_option maxRecDepth 20000 in
theorem gX8_composes_X8_trims : GoodIn wsX8_composes (wsV RX8 191 RX8 yX8_trims wsX8_trims) := goodIn_app (goodIn_of _ (by decide +kernel)) ggX8_composes_X8_trims
theorem dX8_composes_0 : decode cX8_composes 0 = .ok (.aload_n 0, 1) := by decide +kernel
theorem dX8_composes_1 : decode cX8_composes 1 = .ok (.invokevirtual 188, 3) := by decide +kernel
theorem dX8_composes_4 : decode cX8_composes 4 = .ok (.aload_n 0, 1) := by decide +kernel
theorem dX8_composes_5 : decode cX8_composes 5 = .ok (.getfield 13, 3) := by decide +kernel
theorem dX8_composes_8 : decode cX8_composes 8 = .ok (.iload_n 2, 1) := by decide +kernel
theorem dX8_composes_9 : decode cX8_composes 9 = .ok (.iaload, 1) := by decide +kernel
theorem dX8_composes_10 : decode cX8_composes 10 = .ok (.istore_n 3, 1) := by decide +kernel
theorem dX8_composes_11 : decode cX8_composes 11 = .ok (.sipush 160, 3) := by decide +kernel
theorem dX8_composes_14 : decode cX8_composes 14 = .ok (.iload_n 1, 1) := by decide +kernel
theorem dX8_composes_15 : decode cX8_composes 15 = .ok (.imul, 1) := by decide +kernel
theorem dX8_composes_16 : decode cX8_composes 16 = .ok (.istore 4, 2) := by decide +kernel
theorem dX8_composes_18 : decode cX8_composes 18 = .ok (.iload 4, 2) := by decide +kernel
theorem dX8_composes_20 : decode cX8_composes 20 = .ok (.sipush 160, 3) := by decide +kernel
theorem dX8_composes_23 : decode cX8_composes 23 = .ok (.iload_n 1, 1) := by decide +kernel
theorem dX8_composes_24 : decode cX8_composes 24 = .ok (.imul, 1) := by decide +kernel
theorem dX8_composes_25 : decode cX8_composes 25 = .ok (.aload_n 0, 1) := by decide +kernel
theorem dX8_composes_26 : decode cX8_composes 26 = .ok (.getfield 19, 3) := by decide +kernel
theorem dX8_composes_29 : decode cX8_composes 29 = .ok (.iload_n 1, 1) := by decide +kernel
theorem dX8_composes_30 : decode cX8_composes 30 = .ok (.iaload, 1) := by decide +kernel
theorem dX8_composes_31 : decode cX8_composes 31 = .ok (.iadd, 1) := by decide +kernel
theorem dX8_composes_32 : decode cX8_composes 32 = .ok (.if_icmp .ge 228, 3) := by decide +kernel
theorem dX8_composes_35 : decode cX8_composes 35 = .ok (.sipush 160, 3) := by decide +kernel
theorem dX8_composes_38 : decode cX8_composes 38 = .ok (.iload_n 2, 1) := by decide +kernel
theorem dX8_composes_39 : decode cX8_composes 39 = .ok (.imul, 1) := by decide +kernel
theorem dX8_composes_40 : decode cX8_composes 40 = .ok (.istore 5, 2) := by decide +kernel
theorem dX8_composes_42 : decode cX8_composes 42 = .ok (.iload 5, 2) := by decide +kernel
theorem dX8_composes_44 : decode cX8_composes 44 = .ok (.sipush 160, 3) := by decide +kernel
theorem dX8_composes_47 : decode cX8_composes 47 = .ok (.iload_n 2, 1) := by decide +kernel
theorem dX8_composes_48 : decode cX8_composes 48 = .ok (.imul, 1) := by decide +kernel
theorem dX8_composes_49 : decode cX8_composes 49 = .ok (.aload_n 0, 1) := by decide +kernel
theorem dX8_composes_50 : decode cX8_composes 50 = .ok (.getfield 19, 3) := by decide +kernel
theorem dX8_composes_53 : decode cX8_composes 53 = .ok (.iload_n 2, 1) := by decide +kernel
theorem dX8_composes_54 : decode cX8_composes 54 = .ok (.iaload, 1) := by decide +kernel
theorem dX8_composes_55 : decode cX8_composes 55 = .ok (.iadd, 1) := by decide +kernel
theorem dX8_composes_56 : decode cX8_composes 56 = .ok (.if_icmp .ge 127, 3) := by decide +kernel
theorem dX8_composes_59 : decode cX8_composes 59 = .ok (.aload_n 0, 1) := by decide +kernel
theorem dX8_composes_60 : decode cX8_composes 60 = .ok (.getfield 28, 3) := by decide +kernel
theorem dX8_composes_63 : decode cX8_composes 63 = .ok (.iload 4, 2) := by decide +kernel
theorem dX8_composes_65 : decode cX8_composes 65 = .ok (.iaload, 1) := by decide +kernel
theorem dX8_composes_66 : decode cX8_composes 66 = .ok (.bipush 8, 2) := by decide +kernel
theorem dX8_composes_68 : decode cX8_composes 68 = .ok (.if_icmp .eq 109, 3) := by decide +kernel
theorem dX8_composes_71 : decode cX8_composes 71 = .ok (.aload_n 0, 1) := by decide +kernel
theorem dX8_composes_72 : decode cX8_composes 72 = .ok (.getfield 28, 3) := by decide +kernel
theorem dX8_composes_75 : decode cX8_composes 75 = .ok (.iload 4, 2) := by decide +kernel
theorem dX8_composes_77 : decode cX8_composes 77 = .ok (.iaload, 1) := by decide +kernel
theorem dX8_composes_78 : decode cX8_composes 78 = .ok (.aload_n 0, 1) := by decide +kernel
theorem dX8_composes_79 : decode cX8_composes 79 = .ok (.getfield 25, 3) := by decide +kernel
theorem dX8_composes_82 : decode cX8_composes 82 = .ok (.iload 5, 2) := by decide +kernel
theorem dX8_composes_84 : decode cX8_composes 84 = .ok (.iaload, 1) := by decide +kernel
theorem dX8_composes_85 : decode cX8_composes 85 = .ok (.if_icmp .ne 92, 3) := by decide +kernel
theorem dX8_composes_88 : decode cX8_composes 88 = .ok (.aload_n 0, 1) := by decide +kernel
theorem dX8_composes_89 : decode cX8_composes 89 = .ok (.getfield 31, 3) := by decide +kernel
theorem dX8_composes_92 : decode cX8_composes 92 = .ok (.iload 4, 2) := by decide +kernel
theorem dX8_composes_94 : decode cX8_composes 94 = .ok (.iaload, 1) := by decide +kernel
theorem dX8_composes_95 : decode cX8_composes 95 = .ok (.aload_n 0, 1) := by decide +kernel
theorem dX8_composes_96 : decode cX8_composes 96 = .ok (.getfield 31, 3) := by decide +kernel
theorem dX8_composes_99 : decode cX8_composes 99 = .ok (.iload 5, 2) := by decide +kernel
theorem dX8_composes_101 : decode cX8_composes 101 = .ok (.iaload, 1) := by decide +kernel
theorem dX8_composes_102 : decode cX8_composes 102 = .ok (.iadd, 1) := by decide +kernel
theorem dX8_composes_103 : decode cX8_composes 103 = .ok (.ldc 223, 2) := by decide +kernel
theorem dX8_composes_105 : decode cX8_composes 105 = .ok (.if_icmp .le 5, 3) := by decide +kernel
theorem dX8_composes_108 : decode cX8_composes 108 = .ok (.iconst 0, 1) := by decide +kernel
theorem dX8_composes_109 : decode cX8_composes 109 = .ok (.ireturn, 1) := by decide +kernel
theorem dX8_composes_110 : decode cX8_composes 110 = .ok (.aload_n 0, 1) := by decide +kernel
theorem dX8_composes_111 : decode cX8_composes 111 = .ok (.iload_n 3, 1) := by decide +kernel
theorem dX8_composes_112 : decode cX8_composes 112 = .ok (.aload_n 0, 1) := by decide +kernel
theorem dX8_composes_113 : decode cX8_composes 113 = .ok (.getfield 22, 3) := by decide +kernel
theorem dX8_composes_116 : decode cX8_composes 116 = .ok (.iload 4, 2) := by decide +kernel
theorem dX8_composes_118 : decode cX8_composes 118 = .ok (.iaload, 1) := by decide +kernel
theorem dX8_composes_119 : decode cX8_composes 119 = .ok (.imul, 1) := by decide +kernel
theorem dX8_composes_120 : decode cX8_composes 120 = .ok (.aload_n 0, 1) := by decide +kernel
theorem dX8_composes_121 : decode cX8_composes 121 = .ok (.getfield 22, 3) := by decide +kernel
theorem dX8_composes_124 : decode cX8_composes 124 = .ok (.iload 5, 2) := by decide +kernel
theorem dX8_composes_126 : decode cX8_composes 126 = .ok (.iaload, 1) := by decide +kernel
theorem dX8_composes_127 : decode cX8_composes 127 = .ok (.iadd, 1) := by decide +kernel
theorem dX8_composes_128 : decode cX8_composes 128 = .ok (.aload_n 0, 1) := by decide +kernel
theorem dX8_composes_129 : decode cX8_composes 129 = .ok (.getfield 25, 3) := by decide +kernel
theorem dX8_composes_132 : decode cX8_composes 132 = .ok (.iload 4, 2) := by decide +kernel
theorem dX8_composes_134 : decode cX8_composes 134 = .ok (.iaload, 1) := by decide +kernel
theorem dX8_composes_135 : decode cX8_composes 135 = .ok (.aload_n 0, 1) := by decide +kernel
theorem dX8_composes_136 : decode cX8_composes 136 = .ok (.getfield 28, 3) := by decide +kernel
theorem dX8_composes_139 : decode cX8_composes 139 = .ok (.iload 5, 2) := by decide +kernel
theorem dX8_composes_141 : decode cX8_composes 141 = .ok (.iaload, 1) := by decide +kernel
theorem dX8_composes_142 : decode cX8_composes 142 = .ok (.aload_n 0, 1) := by decide +kernel
theorem dX8_composes_143 : decode cX8_composes 143 = .ok (.getfield 31, 3) := by decide +kernel
theorem dX8_composes_146 : decode cX8_composes 146 = .ok (.iload 4, 2) := by decide +kernel
theorem dX8_composes_148 : decode cX8_composes 148 = .ok (.iaload, 1) := by decide +kernel
theorem dX8_composes_149 : decode cX8_composes 149 = .ok (.aload_n 0, 1) := by decide +kernel
theorem dX8_composes_150 : decode cX8_composes 150 = .ok (.getfield 31, 3) := by decide +kernel
theorem dX8_composes_153 : decode cX8_composes 153 = .ok (.iload 5, 2) := by decide +kernel
theorem dX8_composes_155 : decode cX8_composes 155 = .ok (.iaload, 1) := by decide +kernel
theorem dX8_composes_156 : decode cX8_composes 156 = .ok (.iadd, 1) := by decide +kernel
theorem dX8_composes_157 : decode cX8_composes 157 = .ok (.iload_n 3, 1) := by decide +kernel
theorem dX8_composes_158 : decode cX8_composes 158 = .ok (.aload_n 0, 1) := by decide +kernel
theorem dX8_composes_159 : decode cX8_composes 159 = .ok (.getfield 34, 3) := by decide +kernel
theorem dX8_composes_162 : decode cX8_composes 162 = .ok (.iload 4, 2) := by decide +kernel
theorem dX8_composes_164 : decode cX8_composes 164 = .ok (.iaload, 1) := by decide +kernel
theorem dX8_composes_165 : decode cX8_composes 165 = .ok (.imul, 1) := by decide +kernel
theorem dX8_composes_166 : decode cX8_composes 166 = .ok (.aload_n 0, 1) := by decide +kernel
theorem dX8_composes_167 : decode cX8_composes 167 = .ok (.getfield 34, 3) := by decide +kernel
theorem dX8_composes_170 : decode cX8_composes 170 = .ok (.iload 5, 2) := by decide +kernel
theorem dX8_composes_172 : decode cX8_composes 172 = .ok (.iaload, 1) := by decide +kernel
theorem dX8_composes_173 : decode cX8_composes 173 = .ok (.iadd, 1) := by decide +kernel
theorem dX8_composes_174 : decode cX8_composes 174 = .ok (.invokevirtual 180, 3) := by decide +kernel
theorem dX8_composes_177 : decode cX8_composes 177 = .ok (.iinc 5 1, 3) := by decide +kernel
theorem dX8_composes_180 : decode cX8_composes 180 = .ok (.goto (-138), 3) := by decide +kernel
theorem dX8_composes_183 : decode cX8_composes 183 = .ok (.iconst 0, 1) := by decide +kernel
theorem dX8_composes_184 : decode cX8_composes 184 = .ok (.istore 5, 2) := by decide +kernel
theorem dX8_composes_186 : decode cX8_composes 186 = .ok (.iload 5, 2) := by decide +kernel
theorem dX8_composes_188 : decode cX8_composes 188 = .ok (.iload_n 3, 1) := by decide +kernel
theorem dX8_composes_189 : decode cX8_composes 189 = .ok (.if_icmp .ge 65, 3) := by decide +kernel
theorem dX8_composes_192 : decode cX8_composes 192 = .ok (.aload_n 0, 1) := by decide +kernel
theorem dX8_composes_193 : decode cX8_composes 193 = .ok (.getfield 28, 3) := by decide +kernel
theorem dX8_composes_196 : decode cX8_composes 196 = .ok (.iload 4, 2) := by decide +kernel
theorem dX8_composes_198 : decode cX8_composes 198 = .ok (.iaload, 1) := by decide +kernel
theorem dX8_composes_199 : decode cX8_composes 199 = .ok (.bipush 8, 2) := by decide +kernel
theorem dX8_composes_201 : decode cX8_composes 201 = .ok (.if_icmp .ne 53, 3) := by decide +kernel
theorem dX8_composes_204 : decode cX8_composes 204 = .ok (.aload_n 0, 1) := by decide +kernel
theorem dX8_composes_205 : decode cX8_composes 205 = .ok (.iload_n 3, 1) := by decide +kernel
theorem dX8_composes_206 : decode cX8_composes 206 = .ok (.aload_n 0, 1) := by decide +kernel
theorem dX8_composes_207 : decode cX8_composes 207 = .ok (.getfield 22, 3) := by decide +kernel
theorem dX8_composes_210 : decode cX8_composes 210 = .ok (.iload 4, 2) := by decide +kernel
theorem dX8_composes_212 : decode cX8_composes 212 = .ok (.iaload, 1) := by decide +kernel
theorem dX8_composes_213 : decode cX8_composes 213 = .ok (.imul, 1) := by decide +kernel
theorem dX8_composes_214 : decode cX8_composes 214 = .ok (.iload 5, 2) := by decide +kernel
theorem dX8_composes_216 : decode cX8_composes 216 = .ok (.iadd, 1) := by decide +kernel
theorem dX8_composes_217 : decode cX8_composes 217 = .ok (.aload_n 0, 1) := by decide +kernel
theorem dX8_composes_218 : decode cX8_composes 218 = .ok (.getfield 25, 3) := by decide +kernel
theorem dX8_composes_221 : decode cX8_composes 221 = .ok (.iload 4, 2) := by decide +kernel
theorem dX8_composes_223 : decode cX8_composes 223 = .ok (.iaload, 1) := by decide +kernel
theorem dX8_composes_224 : decode cX8_composes 224 = .ok (.bipush 8, 2) := by decide +kernel
theorem dX8_composes_226 : decode cX8_composes 226 = .ok (.aload_n 0, 1) := by decide +kernel
theorem dX8_composes_227 : decode cX8_composes 227 = .ok (.getfield 31, 3) := by decide +kernel
theorem dX8_composes_230 : decode cX8_composes 230 = .ok (.iload 4, 2) := by decide +kernel
theorem dX8_composes_232 : decode cX8_composes 232 = .ok (.iaload, 1) := by decide +kernel
theorem dX8_composes_233 : decode cX8_composes 233 = .ok (.iload_n 3, 1) := by decide +kernel
theorem dX8_composes_234 : decode cX8_composes 234 = .ok (.aload_n 0, 1) := by decide +kernel
theorem dX8_composes_235 : decode cX8_composes 235 = .ok (.getfield 34, 3) := by decide +kernel
theorem dX8_composes_238 : decode cX8_composes 238 = .ok (.iload 4, 2) := by decide +kernel
theorem dX8_composes_240 : decode cX8_composes 240 = .ok (.iaload, 1) := by decide +kernel
theorem dX8_composes_241 : decode cX8_composes 241 = .ok (.imul, 1) := by decide +kernel
theorem dX8_composes_242 : decode cX8_composes 242 = .ok (.iload 5, 2) := by decide +kernel
theorem dX8_composes_244 : decode cX8_composes 244 = .ok (.iadd, 1) := by decide +kernel
theorem dX8_composes_245 : decode cX8_composes 245 = .ok (.invokevirtual 180, 3) := by decide +kernel
theorem dX8_composes_248 : decode cX8_composes 248 = .ok (.iinc 5 1, 3) := by decide +kernel
theorem dX8_composes_251 : decode cX8_composes 251 = .ok (.goto (-65), 3) := by decide +kernel
theorem dX8_composes_254 : decode cX8_composes 254 = .ok (.iinc 4 1, 3) := by decide +kernel
theorem dX8_composes_257 : decode cX8_composes 257 = .ok (.goto (-239), 3) := by decide +kernel
theorem dX8_composes_260 : decode cX8_composes 260 = .ok (.sipush 160, 3) := by decide +kernel
theorem dX8_composes_263 : decode cX8_composes 263 = .ok (.iload_n 2, 1) := by decide +kernel
theorem dX8_composes_264 : decode cX8_composes 264 = .ok (.imul, 1) := by decide +kernel
theorem dX8_composes_265 : decode cX8_composes 265 = .ok (.istore 4, 2) := by decide +kernel
theorem dX8_composes_267 : decode cX8_composes 267 = .ok (.iload 4, 2) := by decide +kernel
theorem dX8_composes_269 : decode cX8_composes 269 = .ok (.sipush 160, 3) := by decide +kernel
theorem dX8_composes_272 : decode cX8_composes 272 = .ok (.iload_n 2, 1) := by decide +kernel
theorem dX8_composes_273 : decode cX8_composes 273 = .ok (.imul, 1) := by decide +kernel
theorem dX8_composes_274 : decode cX8_composes 274 = .ok (.aload_n 0, 1) := by decide +kernel
theorem dX8_composes_275 : decode cX8_composes 275 = .ok (.getfield 19, 3) := by decide +kernel
theorem dX8_composes_278 : decode cX8_composes 278 = .ok (.iload_n 2, 1) := by decide +kernel
theorem dX8_composes_279 : decode cX8_composes 279 = .ok (.iaload, 1) := by decide +kernel
theorem dX8_composes_280 : decode cX8_composes 280 = .ok (.iadd, 1) := by decide +kernel
theorem dX8_composes_281 : decode cX8_composes 281 = .ok (.if_icmp .ge 85, 3) := by decide +kernel
theorem dX8_composes_284 : decode cX8_composes 284 = .ok (.iconst 0, 1) := by decide +kernel
theorem dX8_composes_285 : decode cX8_composes 285 = .ok (.istore 5, 2) := by decide +kernel
theorem dX8_composes_287 : decode cX8_composes 287 = .ok (.iload 5, 2) := by decide +kernel
theorem dX8_composes_289 : decode cX8_composes 289 = .ok (.aload_n 0, 1) := by decide +kernel
theorem dX8_composes_290 : decode cX8_composes 290 = .ok (.getfield 13, 3) := by decide +kernel
theorem dX8_composes_293 : decode cX8_composes 293 = .ok (.iload_n 1, 1) := by decide +kernel
theorem dX8_composes_294 : decode cX8_composes 294 = .ok (.iaload, 1) := by decide +kernel
theorem dX8_composes_295 : decode cX8_composes 295 = .ok (.if_icmp .ge 65, 3) := by decide +kernel
theorem dX8_composes_298 : decode cX8_composes 298 = .ok (.aload_n 0, 1) := by decide +kernel
theorem dX8_composes_299 : decode cX8_composes 299 = .ok (.getfield 25, 3) := by decide +kernel
theorem dX8_composes_302 : decode cX8_composes 302 = .ok (.iload 4, 2) := by decide +kernel
theorem dX8_composes_304 : decode cX8_composes 304 = .ok (.iaload, 1) := by decide +kernel
theorem dX8_composes_305 : decode cX8_composes 305 = .ok (.bipush 8, 2) := by decide +kernel
theorem dX8_composes_307 : decode cX8_composes 307 = .ok (.if_icmp .ne 53, 3) := by decide +kernel
theorem dX8_composes_310 : decode cX8_composes 310 = .ok (.aload_n 0, 1) := by decide +kernel
theorem dX8_composes_311 : decode cX8_composes 311 = .ok (.iload_n 3, 1) := by decide +kernel
theorem dX8_composes_312 : decode cX8_composes 312 = .ok (.iload 5, 2) := by decide +kernel
theorem dX8_composes_314 : decode cX8_composes 314 = .ok (.imul, 1) := by decide +kernel
theorem dX8_composes_315 : decode cX8_composes 315 = .ok (.aload_n 0, 1) := by decide +kernel
theorem dX8_composes_316 : decode cX8_composes 316 = .ok (.getfield 22, 3) := by decide +kernel
theorem dX8_composes_319 : decode cX8_composes 319 = .ok (.iload 4, 2) := by decide +kernel
theorem dX8_composes_321 : decode cX8_composes 321 = .ok (.iaload, 1) := by decide +kernel
theorem dX8_composes_322 : decode cX8_composes 322 = .ok (.iadd, 1) := by decide +kernel
theorem dX8_composes_323 : decode cX8_composes 323 = .ok (.bipush 8, 2) := by decide +kernel
theorem dX8_composes_325 : decode cX8_composes 325 = .ok (.aload_n 0, 1) := by decide +kernel
theorem dX8_composes_326 : decode cX8_composes 326 = .ok (.getfield 28, 3) := by decide +kernel
theorem dX8_composes_329 : decode cX8_composes 329 = .ok (.iload 4, 2) := by decide +kernel
theorem dX8_composes_331 : decode cX8_composes 331 = .ok (.iaload, 1) := by decide +kernel
theorem dX8_composes_332 : decode cX8_composes 332 = .ok (.aload_n 0, 1) := by decide +kernel
theorem dX8_composes_333 : decode cX8_composes 333 = .ok (.getfield 31, 3) := by decide +kernel
theorem dX8_composes_336 : decode cX8_composes 336 = .ok (.iload 4, 2) := by decide +kernel
theorem dX8_composes_338 : decode cX8_composes 338 = .ok (.iaload, 1) := by decide +kernel
theorem dX8_composes_339 : decode cX8_composes 339 = .ok (.iload_n 3, 1) := by decide +kernel
theorem dX8_composes_340 : decode cX8_composes 340 = .ok (.iload 5, 2) := by decide +kernel
theorem dX8_composes_342 : decode cX8_composes 342 = .ok (.imul, 1) := by decide +kernel
theorem dX8_composes_343 : decode cX8_composes 343 = .ok (.aload_n 0, 1) := by decide +kernel
theorem dX8_composes_344 : decode cX8_composes 344 = .ok (.getfield 34, 3) := by decide +kernel
theorem dX8_composes_347 : decode cX8_composes 347 = .ok (.iload 4, 2) := by decide +kernel
theorem dX8_composes_349 : decode cX8_composes 349 = .ok (.iaload, 1) := by decide +kernel
theorem dX8_composes_350 : decode cX8_composes 350 = .ok (.iadd, 1) := by decide +kernel
theorem dX8_composes_351 : decode cX8_composes 351 = .ok (.invokevirtual 180, 3) := by decide +kernel
theorem dX8_composes_354 : decode cX8_composes 354 = .ok (.iinc 5 1, 3) := by decide +kernel
theorem dX8_composes_357 : decode cX8_composes 357 = .ok (.goto (-70), 3) := by decide +kernel
theorem dX8_composes_360 : decode cX8_composes 360 = .ok (.iinc 4 1, 3) := by decide +kernel
theorem dX8_composes_363 : decode cX8_composes 363 = .ok (.goto (-96), 3) := by decide +kernel
theorem dX8_composes_366 : decode cX8_composes 366 = .ok (.iconst 0, 1) := by decide +kernel
theorem dX8_composes_367 : decode cX8_composes 367 = .ok (.istore 4, 2) := by decide +kernel
theorem dX8_composes_369 : decode cX8_composes 369 = .ok (.iload 4, 2) := by decide +kernel
theorem dX8_composes_371 : decode cX8_composes 371 = .ok (.iload_n 3, 1) := by decide +kernel
theorem dX8_composes_372 : decode cX8_composes 372 = .ok (.aload_n 0, 1) := by decide +kernel
theorem dX8_composes_373 : decode cX8_composes 373 = .ok (.getfield 13, 3) := by decide +kernel
theorem dX8_composes_376 : decode cX8_composes 376 = .ok (.iload_n 1, 1) := by decide +kernel
theorem dX8_composes_377 : decode cX8_composes 377 = .ok (.iaload, 1) := by decide +kernel
theorem dX8_composes_378 : decode cX8_composes 378 = .ok (.imul, 1) := by decide +kernel
theorem dX8_composes_379 : decode cX8_composes 379 = .ok (.if_icmp .ge 45, 3) := by decide +kernel
theorem dX8_composes_382 : decode cX8_composes 382 = .ok (.aload_n 0, 1) := by decide +kernel
theorem dX8_composes_383 : decode cX8_composes 383 = .ok (.getfield 44, 3) := by decide +kernel
theorem dX8_composes_386 : decode cX8_composes 386 = .ok (.iload 4, 2) := by decide +kernel
theorem dX8_composes_388 : decode cX8_composes 388 = .ok (.aload_n 0, 1) := by decide +kernel
theorem dX8_composes_389 : decode cX8_composes 389 = .ok (.iload_n 1, 1) := by decide +kernel
theorem dX8_composes_390 : decode cX8_composes 390 = .ok (.iload 4, 2) := by decide +kernel
theorem dX8_composes_392 : decode cX8_composes 392 = .ok (.iload_n 3, 1) := by decide +kernel
theorem dX8_composes_393 : decode cX8_composes 393 = .ok (.idiv, 1) := by decide +kernel
theorem dX8_composes_394 : decode cX8_composes 394 = .ok (.invokevirtual 201, 3) := by decide +kernel
theorem dX8_composes_397 : decode cX8_composes 397 = .ok (.ifCond .eq 19, 3) := by decide +kernel
theorem dX8_composes_400 : decode cX8_composes 400 = .ok (.aload_n 0, 1) := by decide +kernel
theorem dX8_composes_401 : decode cX8_composes 401 = .ok (.iload_n 2, 1) := by decide +kernel
theorem dX8_composes_402 : decode cX8_composes 402 = .ok (.iload 4, 2) := by decide +kernel
theorem dX8_composes_404 : decode cX8_composes 404 = .ok (.iload_n 3, 1) := by decide +kernel
theorem dX8_composes_405 : decode cX8_composes 405 = .ok (.irem, 1) := by decide +kernel
theorem dX8_composes_406 : decode cX8_composes 406 = .ok (.invokevirtual 201, 3) := by decide +kernel
theorem dX8_composes_409 : decode cX8_composes 409 = .ok (.ifCond .eq 7, 3) := by decide +kernel
theorem dX8_composes_412 : decode cX8_composes 412 = .ok (.iconst 1, 1) := by decide +kernel
theorem dX8_composes_413 : decode cX8_composes 413 = .ok (.goto 4, 3) := by decide +kernel
theorem dX8_composes_416 : decode cX8_composes 416 = .ok (.iconst 0, 1) := by decide +kernel
theorem dX8_composes_417 : decode cX8_composes 417 = .ok (.bastore, 1) := by decide +kernel
theorem dX8_composes_418 : decode cX8_composes 418 = .ok (.iinc 4 1, 3) := by decide +kernel
theorem dX8_composes_421 : decode cX8_composes 421 = .ok (.goto (-52), 3) := by decide +kernel
theorem dX8_composes_424 : decode cX8_composes 424 = .ok (.aload_n 0, 1) := by decide +kernel
theorem dX8_composes_425 : decode cX8_composes 425 = .ok (.iconst 0, 1) := by decide +kernel
theorem dX8_composes_426 : decode cX8_composes 426 = .ok (.invokevirtual 191, 3) := by decide +kernel
theorem dX8_composes_429 : decode cX8_composes 429 = .ok (.ireturn, 1) := by decide +kernel
set_option maxRecDepth 20000 in
theorem ggX8_compose_X8_isMachine : GoodIn wsX8_compose wsX8_isMachine := goodIn_r _ [5, 6, 7, 8, 4, 9, 94, 95, 96, 97, 98, 99, 100, 101, 102, 103, 104, 105, 106, 107, 108, 109, 110, 111, 112, 113, 114, 115, 116, 117, 118, 119, 120, 121, 122, 123, 124, 125, 126, 127, 128, 129, 130, 131, 132, 133, 134, 135, 136, 137, 138, 139, 140] rfl (by decide +kernel)
set_option maxRecDepth 20000 in
theorem gX8_compose_X8_isMachine : GoodIn wsX8_compose (wsV RX8 204 RX8 yX8_isMachine wsX8_isMachine) := goodIn_app (goodIn_of _ (by decide +kernel)) ggX8_compose_X8_isMachine
set_option maxRecDepth 20000 in
theorem ggX8_compose_X8_isThere : GoodIn wsX8_compose wsX8_isThere := goodIn_r _ [13, 6, 94, 95, 96, 97, 98, 99, 100, 101, 102, 103, 104, 105, 106, 107, 108, 109, 110, 111, 112, 113, 114, 115, 116, 117, 118, 119, 120, 121, 122, 123, 124, 125, 126, 127, 128, 129, 130, 131, 132, 133, 134, 135, 136, 137, 138, 139, 140] rfl (by decide +kernel)
set_option maxRecDepth 20000 in
theorem gX8_compose_X8_isThere : GoodIn wsX8_compose (wsV RX8 184 RX8 yX8_isThere wsX8_isThere) := goodIn_app (goodIn_of _ (by decide +kernel)) ggX8_compose_X8_isThere
set_option maxRecDepth 20000 in
theorem ggX8_compose_X8_composes : GoodIn wsX8_compose wsX8_composes := goodIn_r _ [17, 18, 19, 20, 21, 22, 23, 24, 25, 26, 27, 28, 29, 4, 30, 31, 32, 33, 34, 35, 36, 37, 38, 39, 40, 41, 42, 43, 44, 45, 46, 47, 48, 49, 50, 51, 52, 53, 54, 55, 56, 57, 58, 59, 60, 61, 62, 63, 64, 65, 66, 67, 68, 69, 70, 71, 72, 73, 74, 75, 76, 94, 95, 96, 97, 98, 99, 100, 101, 102, 103, 104, 105, 106, 107, 108, 109, 110, 111, 112, 113, 114, 115, 116, 117, 118, 119, 120, 121, 122, 123, 124, 125, 126, 127, 128, 129, 130, 131, 132, 133, 134, 135, 136, 137, 138, 139, 140] rfl (by decide +kernel)
set_option maxRecDepth 20000 in
theorem gX8_compose_X8_composes : GoodIn wsX8_compose (wsV RX8 224 RX8 yX8_composes wsX8_composes) := goodIn_app (goodIn_of _ (by decide +kernel)) ggX8_compose_X8_composes
set_option maxRecDepth 20000 in
theorem ggX8_compose_X8_isFine : GoodIn wsX8_compose wsX8_isFine := goodIn_r _ [80, 81, 94, 95, 96, 97, 98, 99, 100, 101, 102, 103, 104, 105, 106, 107, 108, 109, 110, 111, 112, 113, 114, 115, 116, 117, 118, 119, 120, 121, 122, 123, 124, 125, 126, 127, 128, 129, 130, 131, 132, 133, 134, 135, 136, 137, 138, 139, 140] rfl (by decide +kernel)
set_option maxRecDepth 20000 in
theorem gX8_compose_X8_isFine : GoodIn wsX8_compose (wsV RX8 138 RX8 yX8_isFine wsX8_isFine) := goodIn_app (goodIn_of _ (by decide +kernel)) ggX8_compose_X8_isFine
set_option maxRecDepth 20000 in
theorem ggX8_compose_X8_keeps : GoodIn wsX8_compose wsX8_keeps := goodIn_r _ [85, 49, 6, 18, 48, 42, 57, 19, 24, 52, 21, 53, 20, 54, 22, 55, 25, 56, 86, 87, 88, 4, 89, 90, 91, 92, 93, 94, 95, 96, 97, 98, 99, 100, 101, 102, 103, 104, 105, 106, 107, 108, 109, 110, 111, 112, 113, 114, 115, 116, 117, 118, 119, 120, 121, 122, 123, 124, 125, 126, 127, 128, 129, 130, 131, 132, 133, 134, 135, 136, 137, 138, 139, 140] rfl (by decide +kernel)
set_option maxRecDepth 20000 in
theorem gX8_compose_X8_keeps : GoodIn wsX8_compose (wsV RX8 194 RX8 yX8_keeps wsX8_keeps) := goodIn_app (goodIn_of _ (by decide +kernel)) ggX8_compose_X8_keeps
theorem dX8_compose_0 : decode cX8_compose 0 = .ok (.aload_n 0, 1) := by decide +kernel
theorem dX8_compose_1 : decode cX8_compose 1 = .ok (.iload_n 1, 1) := by decide +kernel
theorem dX8_compose_2 : decode cX8_compose 2 = .ok (.invokevirtual 204, 3) := by decide +kernel
theorem dX8_compose_5 : decode cX8_compose 5 = .ok (.ifCond .eq 15, 3) := by decide +kernel
theorem dX8_compose_8 : decode cX8_compose 8 = .ok (.aload_n 0, 1) := by decide +kernel
theorem dX8_compose_9 : decode cX8_compose 9 = .ok (.iload_n 2, 1) := by decide +kernel
theorem dX8_compose_10 : decode cX8_compose 10 = .ok (.invokevirtual 204, 3) := by decide +kernel
theorem dX8_compose_13 : decode cX8_compose 13 = .ok (.ifCond .eq 7, 3) := by decide +kernel
theorem dX8_compose_16 : decode cX8_compose 16 = .ok (.iconst 1, 1) := by decide +kernel
theorem dX8_compose_17 : decode cX8_compose 17 = .ok (.goto 4, 3) := by decide +kernel
theorem dX8_compose_20 : decode cX8_compose 20 = .ok (.iconst 0, 1) := by decide +kernel
theorem dX8_compose_21 : decode cX8_compose 21 = .ok (.istore_n 3, 1) := by decide +kernel
theorem dX8_compose_22 : decode cX8_compose 22 = .ok (.aload_n 0, 1) := by decide +kernel
theorem dX8_compose_23 : decode cX8_compose 23 = .ok (.iload_n 3, 1) := by decide +kernel
theorem dX8_compose_24 : decode cX8_compose 24 = .ok (.ifCond .ne 7, 3) := by decide +kernel
theorem dX8_compose_27 : decode cX8_compose 27 = .ok (.iconst 1, 1) := by decide +kernel
theorem dX8_compose_28 : decode cX8_compose 28 = .ok (.goto 24, 3) := by decide +kernel
theorem dX8_compose_31 : decode cX8_compose 31 = .ok (.aload_n 0, 1) := by decide +kernel
theorem dX8_compose_32 : decode cX8_compose 32 = .ok (.invokevirtual 184, 3) := by decide +kernel
theorem dX8_compose_35 : decode cX8_compose 35 = .ok (.ifCond .eq 12, 3) := by decide +kernel
theorem dX8_compose_38 : decode cX8_compose 38 = .ok (.aload_n 0, 1) := by decide +kernel
theorem dX8_compose_39 : decode cX8_compose 39 = .ok (.iload_n 1, 1) := by decide +kernel
theorem dX8_compose_40 : decode cX8_compose 40 = .ok (.iload_n 2, 1) := by decide +kernel
theorem dX8_compose_41 : decode cX8_compose 41 = .ok (.invokevirtual 224, 3) := by decide +kernel
theorem dX8_compose_44 : decode cX8_compose 44 = .ok (.ifCond .ne 7, 3) := by decide +kernel
theorem dX8_compose_47 : decode cX8_compose 47 = .ok (.iconst 2, 1) := by decide +kernel
theorem dX8_compose_48 : decode cX8_compose 48 = .ok (.goto 4, 3) := by decide +kernel
theorem dX8_compose_51 : decode cX8_compose 51 = .ok (.iconst 0, 1) := by decide +kernel
theorem dX8_compose_52 : decode cX8_compose 52 = .ok (.invokevirtual 138, 3) := by decide +kernel
theorem dX8_compose_55 : decode cX8_compose 55 = .ok (.ifCond .ne 5, 3) := by decide +kernel
theorem dX8_compose_58 : decode cX8_compose 58 = .ok (.iconst 0, 1) := by decide +kernel
theorem dX8_compose_59 : decode cX8_compose 59 = .ok (.ireturn, 1) := by decide +kernel
theorem dX8_compose_60 : decode cX8_compose 60 = .ok (.aload_n 0, 1) := by decide +kernel
theorem dX8_compose_61 : decode cX8_compose 61 = .ok (.invokevirtual 194, 3) := by decide +kernel
theorem dX8_compose_64 : decode cX8_compose 64 = .ok (.ireturn, 1) := by decide +kernel
set_option maxRecDepth 20000 in
theorem ggX8_sides_X8_begins : GoodIn wsX8_sides wsX8_begins := goodIn_r _ [12, 13, 7, 59, 60, 61, 62, 63, 64, 65, 66, 67, 68, 69, 70, 71, 72, 73, 74, 75, 76, 77, 78, 79, 80, 81, 82, 83, 84, 85, 86, 87, 88, 89, 90, 91, 92, 93, 94, 95, 96, 97, 98, 99, 100, 101, 102, 103, 104, 105] rfl (by decide +kernel)
set_option maxRecDepth 20000 in
theorem gX8_sides_X8_begins : GoodIn wsX8_sides (wsV RX8 188 RX8 yX8_begins wsX8_begins) := goodIn_app (goodIn_of _ (by decide +kernel)) ggX8_sides_X8_begins
set_option maxRecDepth 20000 in
theorem ggX8_sides_X8_adds : GoodIn wsX8_sides wsX8_adds := goodIn_r _ [17, 18, 13, 19, 59, 60, 61, 62, 63, 64, 65, 66, 67, 68, 69, 70, 71, 72, 73, 74, 75, 76, 77, 78, 79, 80, 81, 82, 83, 84, 85, 86, 87, 88, 89, 90, 91, 92, 93, 94, 95, 96, 97, 98, 99, 100, 101, 102, 103, 104, 105] rfl (by decide +kernel)
set_option maxRecDepth 20000 in
theorem gX8_sides_X8_adds : GoodIn wsX8_sides (wsV RX8 180 RX8 yX8_adds wsX8_adds) := goodIn_app (goodIn_of _ (by decide +kernel)) ggX8_sides_X8_adds
set_option maxRecDepth 20000 in
theorem ggX8_sides_X8_isEndOf : GoodIn wsX8_sides wsX8_isEndOf := goodIn_r _ [23, 24, 59, 60, 61, 62, 63, 64, 65, 66, 67, 68, 69, 70, 71, 72, 73, 74, 75, 76, 77, 78, 79, 80, 81, 82, 83, 84, 85, 86, 87, 88, 89, 90, 91, 92, 93, 94, 95, 96, 97, 98, 99, 100, 101, 102, 103, 104, 105] rfl (by decide +kernel)
set_option maxRecDepth 20000 in
theorem gX8_sides_X8_isEndOf : GoodIn wsX8_sides (wsV RX8 201 RX8 yX8_isEndOf wsX8_isEndOf) := goodIn_app (goodIn_of _ (by decide +kernel)) ggX8_sides_X8_isEndOf
set_option maxRecDepth 20000 in
theorem ggX8_sides_X8_trims : GoodIn wsX8_sides wsX8_trims := goodIn_r _ [28, 29, 30, 31, 32, 33, 18, 34, 35, 36, 37, 19, 38, 39, 7, 40, 41, 42, 11, 43, 44, 13, 45, 46, 47, 48, 49, 50, 51, 52, 53, 54, 55, 56, 57, 58, 59, 60, 61, 62, 63, 64, 65, 66, 67, 68, 69, 70, 71, 72, 73, 74, 75, 76, 77, 78, 79, 80, 81, 82, 83, 84, 85, 86, 87, 88, 89, 90, 91, 92, 93, 94, 95, 96, 97, 98, 99, 100, 101, 102, 103, 104, 105] rfl (by decide +kernel)
set_option maxRecDepth 20000 in
theorem gX8_sides_X8_trims : GoodIn wsX8_sides (wsV RX8 191 RX8 yX8_trims wsX8_trims) := goodIn_app (goodIn_of _ (by decide +kernel)) ggX8_sides_X8_trims
theorem dX8_sides_0 : decode cX8_sides 0 = .ok (.aload_n 0, 1) := by decide +kernel
theorem dX8_sides_1 : decode cX8_sides 1 = .ok (.invokevirtual 188, 3) := by decide +kernel
theorem dX8_sides_4 : decode cX8_sides 4 = .ok (.sipush 160, 3) := by decide +kernel
theorem dX8_sides_7 : decode cX8_sides 7 = .ok (.iload_n 1, 1) := by decide +kernel
theorem dX8_sides_8 : decode cX8_sides 8 = .ok (.imul, 1) := by decide +kernel
theorem dX8_sides_9 : decode cX8_sides 9 = .ok (.istore_n 3, 1) := by decide +kernel
theorem dX8_sides_10 : decode cX8_sides 10 = .ok (.iload_n 3, 1) := by decide +kernel
theorem dX8_sides_11 : decode cX8_sides 11 = .ok (.sipush 160, 3) := by decide +kernel
theorem dX8_sides_14 : decode cX8_sides 14 = .ok (.iload_n 1, 1) := by decide +kernel
theorem dX8_sides_15 : decode cX8_sides 15 = .ok (.imul, 1) := by decide +kernel
theorem dX8_sides_16 : decode cX8_sides 16 = .ok (.aload_n 0, 1) := by decide +kernel
theorem dX8_sides_17 : decode cX8_sides 17 = .ok (.getfield 19, 3) := by decide +kernel
theorem dX8_sides_20 : decode cX8_sides 20 = .ok (.iload_n 1, 1) := by decide +kernel
theorem dX8_sides_21 : decode cX8_sides 21 = .ok (.iaload, 1) := by decide +kernel
theorem dX8_sides_22 : decode cX8_sides 22 = .ok (.iadd, 1) := by decide +kernel
theorem dX8_sides_23 : decode cX8_sides 23 = .ok (.if_icmp .ge 51, 3) := by decide +kernel
theorem dX8_sides_26 : decode cX8_sides 26 = .ok (.iload_n 2, 1) := by decide +kernel
theorem dX8_sides_27 : decode cX8_sides 27 = .ok (.ifCond .eq 12, 3) := by decide +kernel
theorem dX8_sides_30 : decode cX8_sides 30 = .ok (.aload_n 0, 1) := by decide +kernel
theorem dX8_sides_31 : decode cX8_sides 31 = .ok (.getfield 25, 3) := by decide +kernel
theorem dX8_sides_34 : decode cX8_sides 34 = .ok (.iload_n 3, 1) := by decide +kernel
theorem dX8_sides_35 : decode cX8_sides 35 = .ok (.iaload, 1) := by decide +kernel
theorem dX8_sides_36 : decode cX8_sides 36 = .ok (.goto 9, 3) := by decide +kernel
theorem dX8_sides_39 : decode cX8_sides 39 = .ok (.aload_n 0, 1) := by decide +kernel
theorem dX8_sides_40 : decode cX8_sides 40 = .ok (.getfield 28, 3) := by decide +kernel
theorem dX8_sides_43 : decode cX8_sides 43 = .ok (.iload_n 3, 1) := by decide +kernel
theorem dX8_sides_44 : decode cX8_sides 44 = .ok (.iaload, 1) := by decide +kernel
theorem dX8_sides_45 : decode cX8_sides 45 = .ok (.istore 4, 2) := by decide +kernel
theorem dX8_sides_47 : decode cX8_sides 47 = .ok (.aload_n 0, 1) := by decide +kernel
theorem dX8_sides_48 : decode cX8_sides 48 = .ok (.aload_n 0, 1) := by decide +kernel
theorem dX8_sides_49 : decode cX8_sides 49 = .ok (.getfield 22, 3) := by decide +kernel
theorem dX8_sides_52 : decode cX8_sides 52 = .ok (.iload_n 3, 1) := by decide +kernel
theorem dX8_sides_53 : decode cX8_sides 53 = .ok (.iaload, 1) := by decide +kernel
theorem dX8_sides_54 : decode cX8_sides 54 = .ok (.iload 4, 2) := by decide +kernel
theorem dX8_sides_56 : decode cX8_sides 56 = .ok (.iload 4, 2) := by decide +kernel
theorem dX8_sides_58 : decode cX8_sides 58 = .ok (.iconst 0, 1) := by decide +kernel
theorem dX8_sides_59 : decode cX8_sides 59 = .ok (.aload_n 0, 1) := by decide +kernel
theorem dX8_sides_60 : decode cX8_sides 60 = .ok (.getfield 34, 3) := by decide +kernel
theorem dX8_sides_63 : decode cX8_sides 63 = .ok (.iload_n 3, 1) := by decide +kernel
theorem dX8_sides_64 : decode cX8_sides 64 = .ok (.iaload, 1) := by decide +kernel
theorem dX8_sides_65 : decode cX8_sides 65 = .ok (.invokevirtual 180, 3) := by decide +kernel
theorem dX8_sides_68 : decode cX8_sides 68 = .ok (.iinc 3 1, 3) := by decide +kernel
theorem dX8_sides_71 : decode cX8_sides 71 = .ok (.goto (-61), 3) := by decide +kernel
theorem dX8_sides_74 : decode cX8_sides 74 = .ok (.iconst 0, 1) := by decide +kernel
theorem dX8_sides_75 : decode cX8_sides 75 = .ok (.istore_n 3, 1) := by decide +kernel
theorem dX8_sides_76 : decode cX8_sides 76 = .ok (.iload_n 3, 1) := by decide +kernel
theorem dX8_sides_77 : decode cX8_sides 77 = .ok (.aload_n 0, 1) := by decide +kernel
theorem dX8_sides_78 : decode cX8_sides 78 = .ok (.getfield 13, 3) := by decide +kernel
theorem dX8_sides_81 : decode cX8_sides 81 = .ok (.iload_n 1, 1) := by decide +kernel
theorem dX8_sides_82 : decode cX8_sides 82 = .ok (.iaload, 1) := by decide +kernel
theorem dX8_sides_83 : decode cX8_sides 83 = .ok (.if_icmp .ge 21, 3) := by decide +kernel
theorem dX8_sides_86 : decode cX8_sides 86 = .ok (.aload_n 0, 1) := by decide +kernel
theorem dX8_sides_87 : decode cX8_sides 87 = .ok (.getfield 44, 3) := by decide +kernel
theorem dX8_sides_90 : decode cX8_sides 90 = .ok (.iload_n 3, 1) := by decide +kernel
theorem dX8_sides_91 : decode cX8_sides 91 = .ok (.aload_n 0, 1) := by decide +kernel
theorem dX8_sides_92 : decode cX8_sides 92 = .ok (.iload_n 1, 1) := by decide +kernel
theorem dX8_sides_93 : decode cX8_sides 93 = .ok (.iload_n 3, 1) := by decide +kernel
theorem dX8_sides_94 : decode cX8_sides 94 = .ok (.invokevirtual 201, 3) := by decide +kernel
theorem dX8_sides_97 : decode cX8_sides 97 = .ok (.bastore, 1) := by decide +kernel
theorem dX8_sides_98 : decode cX8_sides 98 = .ok (.iinc 3 1, 3) := by decide +kernel
theorem dX8_sides_101 : decode cX8_sides 101 = .ok (.goto (-25), 3) := by decide +kernel
theorem dX8_sides_104 : decode cX8_sides 104 = .ok (.aload_n 0, 1) := by decide +kernel
theorem dX8_sides_105 : decode cX8_sides 105 = .ok (.iconst 0, 1) := by decide +kernel
theorem dX8_sides_106 : decode cX8_sides 106 = .ok (.invokevirtual 191, 3) := by decide +kernel
theorem dX8_sides_109 : decode cX8_sides 109 = .ok (.ireturn, 1) := by decide +kernel
set_option maxRecDepth 20000 in
theorem ggX8_side_X8_isMachine : GoodIn wsX8_side wsX8_isMachine := goodIn_r _ [5, 6, 7, 8, 4, 9, 93, 94, 95, 96, 97, 98, 99, 100, 101, 102, 103, 104, 105, 106, 107, 108, 109, 110, 111, 112, 113, 114, 115, 116, 117, 118, 119, 120, 121, 122, 123, 124, 125, 126, 127, 128, 129, 130, 131, 132, 133, 134, 135, 136, 137, 138, 139] rfl (by decide +kernel)
set_option maxRecDepth 20000 in
theorem gX8_side_X8_isMachine : GoodIn wsX8_side (wsV RX8 204 RX8 yX8_isMachine wsX8_isMachine) := goodIn_app (goodIn_of _ (by decide +kernel)) ggX8_side_X8_isMachine
set_option maxRecDepth 20000 in
theorem ggX8_side_X8_isThere : GoodIn wsX8_side wsX8_isThere := goodIn_r _ [13, 6, 93, 94, 95, 96, 97, 98, 99, 100, 101, 102, 103, 104, 105, 106, 107, 108, 109, 110, 111, 112, 113, 114, 115, 116, 117, 118, 119, 120, 121, 122, 123, 124, 125, 126, 127, 128, 129, 130, 131, 132, 133, 134, 135, 136, 137, 138, 139] rfl (by decide +kernel)
set_option maxRecDepth 20000 in
theorem gX8_side_X8_isThere : GoodIn wsX8_side (wsV RX8 184 RX8 yX8_isThere wsX8_isThere) := goodIn_app (goodIn_of _ (by decide +kernel)) ggX8_side_X8_isThere
set_option maxRecDepth 20000 in
theorem ggX8_side_X8_sides : GoodIn wsX8_side wsX8_sides := goodIn_r _ [17, 18, 19, 20, 21, 22, 23, 24, 25, 26, 27, 4, 28, 29, 30, 31, 32, 33, 34, 35, 36, 37, 38, 39, 40, 41, 42, 43, 44, 45, 46, 47, 48, 49, 50, 51, 52, 53, 54, 55, 56, 57, 58, 59, 60, 61, 62, 63, 64, 65, 66, 67, 68, 69, 70, 71, 72, 73, 74, 93, 94, 95, 96, 97, 98, 99, 100, 101, 102, 103, 104, 105, 106, 107, 108, 109, 110, 111, 112, 113, 114, 115, 116, 117, 118, 119, 120, 121, 122, 123, 124, 125, 126, 127, 128, 129, 130, 131, 132, 133, 134, 135, 136, 137, 138, 139] rfl (by decide +kernel)
set_option maxRecDepth 20000 in
theorem gX8_side_X8_sides : GoodIn wsX8_side (wsV RX8 227 RX8 yX8_sides wsX8_sides) := goodIn_app (goodIn_of _ (by decide +kernel)) ggX8_side_X8_sides
set_option maxRecDepth 20000 in
theorem ggX8_side_X8_isFine : GoodIn wsX8_side wsX8_isFine := goodIn_r _ [78, 79, 93, 94, 95, 96, 97, 98, 99, 100, 101, 102, 103, 104, 105, 106, 107, 108, 109, 110, 111, 112, 113, 114, 115, 116, 117, 118, 119, 120, 121, 122, 123, 124, 125, 126, 127, 128, 129, 130, 131, 132, 133, 134, 135, 136, 137, 138, 139] rfl (by decide +kernel)
set_option maxRecDepth 20000 in
theorem gX8_side_X8_isFine : GoodIn wsX8_side (wsV RX8 138 RX8 yX8_isFine wsX8_isFine) := goodIn_app (goodIn_of _ (by decide +kernel)) ggX8_side_X8_isFine
set_option maxRecDepth 20000 in
theorem ggX8_side_X8_keeps : GoodIn wsX8_side wsX8_keeps := goodIn_r _ [83, 47, 6, 23, 46, 40, 55, 18, 21, 50, 19, 51, 20, 52, 84, 53, 22, 54, 85, 86, 87, 4, 88, 89, 90, 91, 92, 93, 94, 95, 96, 97, 98, 99, 100, 101, 102, 103, 104, 105, 106, 107, 108, 109, 110, 111, 112, 113, 114, 115, 116, 117, 118, 119, 120, 121, 122, 123, 124, 125, 126, 127, 128, 129, 130, 131, 132, 133, 134, 135, 136, 137, 138, 139] rfl (by decide +kernel)
set_option maxRecDepth 20000 in
theorem gX8_side_X8_keeps : GoodIn wsX8_side (wsV RX8 194 RX8 yX8_keeps wsX8_keeps) := goodIn_app (goodIn_of _ (by decide +kernel)) ggX8_side_X8_keeps
theorem dX8_side_0 : decode cX8_side 0 = .ok (.aload_n 0, 1) := by decide +kernel
theorem dX8_side_1 : decode cX8_side 1 = .ok (.iload_n 1, 1) := by decide +kernel
theorem dX8_side_2 : decode cX8_side 2 = .ok (.invokevirtual 204, 3) := by decide +kernel
theorem dX8_side_5 : decode cX8_side 5 = .ok (.istore_n 3, 1) := by decide +kernel
theorem dX8_side_6 : decode cX8_side 6 = .ok (.aload_n 0, 1) := by decide +kernel
theorem dX8_side_7 : decode cX8_side 7 = .ok (.iload_n 3, 1) := by decide +kernel
theorem dX8_side_8 : decode cX8_side 8 = .ok (.ifCond .ne 7, 3) := by decide +kernel
theorem dX8_side_11 : decode cX8_side 11 = .ok (.iconst 1, 1) := by decide +kernel
theorem dX8_side_12 : decode cX8_side 12 = .ok (.goto 24, 3) := by decide +kernel
theorem dX8_side_15 : decode cX8_side 15 = .ok (.aload_n 0, 1) := by decide +kernel
theorem dX8_side_16 : decode cX8_side 16 = .ok (.invokevirtual 184, 3) := by decide +kernel
theorem dX8_side_19 : decode cX8_side 19 = .ok (.ifCond .eq 12, 3) := by decide +kernel
theorem dX8_side_22 : decode cX8_side 22 = .ok (.aload_n 0, 1) := by decide +kernel
theorem dX8_side_23 : decode cX8_side 23 = .ok (.iload_n 1, 1) := by decide +kernel
theorem dX8_side_24 : decode cX8_side 24 = .ok (.iload_n 2, 1) := by decide +kernel
theorem dX8_side_25 : decode cX8_side 25 = .ok (.invokevirtual 227, 3) := by decide +kernel
theorem dX8_side_28 : decode cX8_side 28 = .ok (.ifCond .ne 7, 3) := by decide +kernel
theorem dX8_side_31 : decode cX8_side 31 = .ok (.iconst 2, 1) := by decide +kernel
theorem dX8_side_32 : decode cX8_side 32 = .ok (.goto 4, 3) := by decide +kernel
theorem dX8_side_35 : decode cX8_side 35 = .ok (.iconst 0, 1) := by decide +kernel
theorem dX8_side_36 : decode cX8_side 36 = .ok (.invokevirtual 138, 3) := by decide +kernel
theorem dX8_side_39 : decode cX8_side 39 = .ok (.ifCond .ne 5, 3) := by decide +kernel
theorem dX8_side_42 : decode cX8_side 42 = .ok (.iconst 0, 1) := by decide +kernel
theorem dX8_side_43 : decode cX8_side 43 = .ok (.ireturn, 1) := by decide +kernel
theorem dX8_side_44 : decode cX8_side 44 = .ok (.aload_n 0, 1) := by decide +kernel
theorem dX8_side_45 : decode cX8_side 45 = .ok (.invokevirtual 194, 3) := by decide +kernel
theorem dX8_side_48 : decode cX8_side 48 = .ok (.ireturn, 1) := by decide +kernel
theorem dX8_isPlainOf_0 : decode cX8_isPlainOf 0 = .ok (.iconst 1, 1) := by decide +kernel
theorem dX8_isPlainOf_1 : decode cX8_isPlainOf 1 = .ok (.istore_n 2, 1) := by decide +kernel
theorem dX8_isPlainOf_2 : decode cX8_isPlainOf 2 = .ok (.sipush 160, 3) := by decide +kernel
theorem dX8_isPlainOf_5 : decode cX8_isPlainOf 5 = .ok (.iload_n 1, 1) := by decide +kernel
theorem dX8_isPlainOf_6 : decode cX8_isPlainOf 6 = .ok (.imul, 1) := by decide +kernel
theorem dX8_isPlainOf_7 : decode cX8_isPlainOf 7 = .ok (.istore_n 3, 1) := by decide +kernel
theorem dX8_isPlainOf_8 : decode cX8_isPlainOf 8 = .ok (.iload_n 3, 1) := by decide +kernel
theorem dX8_isPlainOf_9 : decode cX8_isPlainOf 9 = .ok (.sipush 160, 3) := by decide +kernel
theorem dX8_isPlainOf_12 : decode cX8_isPlainOf 12 = .ok (.iload_n 1, 1) := by decide +kernel
theorem dX8_isPlainOf_13 : decode cX8_isPlainOf 13 = .ok (.imul, 1) := by decide +kernel
theorem dX8_isPlainOf_14 : decode cX8_isPlainOf 14 = .ok (.aload_n 0, 1) := by decide +kernel
theorem dX8_isPlainOf_15 : decode cX8_isPlainOf 15 = .ok (.getfield 19, 3) := by decide +kernel
theorem dX8_isPlainOf_18 : decode cX8_isPlainOf 18 = .ok (.iload_n 1, 1) := by decide +kernel
theorem dX8_isPlainOf_19 : decode cX8_isPlainOf 19 = .ok (.iaload, 1) := by decide +kernel
theorem dX8_isPlainOf_20 : decode cX8_isPlainOf 20 = .ok (.iadd, 1) := by decide +kernel
theorem dX8_isPlainOf_21 : decode cX8_isPlainOf 21 = .ok (.if_icmp .ge 43, 3) := by decide +kernel
theorem dX8_isPlainOf_24 : decode cX8_isPlainOf 24 = .ok (.iload_n 2, 1) := by decide +kernel
theorem dX8_isPlainOf_25 : decode cX8_isPlainOf 25 = .ok (.ifCond .eq 31, 3) := by decide +kernel
theorem dX8_isPlainOf_28 : decode cX8_isPlainOf 28 = .ok (.aload_n 0, 1) := by decide +kernel
theorem dX8_isPlainOf_29 : decode cX8_isPlainOf 29 = .ok (.getfield 25, 3) := by decide +kernel
theorem dX8_isPlainOf_32 : decode cX8_isPlainOf 32 = .ok (.iload_n 3, 1) := by decide +kernel
theorem dX8_isPlainOf_33 : decode cX8_isPlainOf 33 = .ok (.iaload, 1) := by decide +kernel
theorem dX8_isPlainOf_34 : decode cX8_isPlainOf 34 = .ok (.aload_n 0, 1) := by decide +kernel
theorem dX8_isPlainOf_35 : decode cX8_isPlainOf 35 = .ok (.getfield 28, 3) := by decide +kernel
theorem dX8_isPlainOf_38 : decode cX8_isPlainOf 38 = .ok (.iload_n 3, 1) := by decide +kernel
theorem dX8_isPlainOf_39 : decode cX8_isPlainOf 39 = .ok (.iaload, 1) := by decide +kernel
theorem dX8_isPlainOf_40 : decode cX8_isPlainOf 40 = .ok (.if_icmp .ne 16, 3) := by decide +kernel
theorem dX8_isPlainOf_43 : decode cX8_isPlainOf 43 = .ok (.aload_n 0, 1) := by decide +kernel
theorem dX8_isPlainOf_44 : decode cX8_isPlainOf 44 = .ok (.getfield 31, 3) := by decide +kernel
theorem dX8_isPlainOf_47 : decode cX8_isPlainOf 47 = .ok (.iload_n 3, 1) := by decide +kernel
theorem dX8_isPlainOf_48 : decode cX8_isPlainOf 48 = .ok (.iaload, 1) := by decide +kernel
theorem dX8_isPlainOf_49 : decode cX8_isPlainOf 49 = .ok (.ifCond .ne 7, 3) := by decide +kernel
theorem dX8_isPlainOf_52 : decode cX8_isPlainOf 52 = .ok (.iconst 1, 1) := by decide +kernel
theorem dX8_isPlainOf_53 : decode cX8_isPlainOf 53 = .ok (.goto 4, 3) := by decide +kernel
theorem dX8_isPlainOf_56 : decode cX8_isPlainOf 56 = .ok (.iconst 0, 1) := by decide +kernel
theorem dX8_isPlainOf_57 : decode cX8_isPlainOf 57 = .ok (.istore_n 2, 1) := by decide +kernel
theorem dX8_isPlainOf_58 : decode cX8_isPlainOf 58 = .ok (.iinc 3 1, 3) := by decide +kernel
theorem dX8_isPlainOf_61 : decode cX8_isPlainOf 61 = .ok (.goto (-53), 3) := by decide +kernel
theorem dX8_isPlainOf_64 : decode cX8_isPlainOf 64 = .ok (.iload_n 2, 1) := by decide +kernel
theorem dX8_isPlainOf_65 : decode cX8_isPlainOf 65 = .ok (.ireturn, 1) := by decide +kernel
theorem dX8_closed_0 : decode cX8_closed 0 = .ok (.iload_n 2, 1) := by decide +kernel
theorem dX8_closed_1 : decode cX8_closed 1 = .ok (.istore_n 3, 1) := by decide +kernel
theorem dX8_closed_2 : decode cX8_closed 2 = .ok (.iconst 0, 1) := by decide +kernel
theorem dX8_closed_3 : decode cX8_closed 3 = .ok (.istore 4, 2) := by decide +kernel
theorem dX8_closed_5 : decode cX8_closed 5 = .ok (.iload 4, 2) := by decide +kernel
theorem dX8_closed_7 : decode cX8_closed 7 = .ok (.bipush 32, 2) := by decide +kernel
theorem dX8_closed_9 : decode cX8_closed 9 = .ok (.if_icmp .ge 82, 3) := by decide +kernel
theorem dX8_closed_12 : decode cX8_closed 12 = .ok (.sipush 160, 3) := by decide +kernel
theorem dX8_closed_15 : decode cX8_closed 15 = .ok (.iload_n 1, 1) := by decide +kernel
theorem dX8_closed_16 : decode cX8_closed 16 = .ok (.imul, 1) := by decide +kernel
theorem dX8_closed_17 : decode cX8_closed 17 = .ok (.istore 5, 2) := by decide +kernel
theorem dX8_closed_19 : decode cX8_closed 19 = .ok (.iload 5, 2) := by decide +kernel
theorem dX8_closed_21 : decode cX8_closed 21 = .ok (.sipush 160, 3) := by decide +kernel
theorem dX8_closed_24 : decode cX8_closed 24 = .ok (.iload_n 1, 1) := by decide +kernel
theorem dX8_closed_25 : decode cX8_closed 25 = .ok (.imul, 1) := by decide +kernel
theorem dX8_closed_26 : decode cX8_closed 26 = .ok (.aload_n 0, 1) := by decide +kernel
theorem dX8_closed_27 : decode cX8_closed 27 = .ok (.getfield 19, 3) := by decide +kernel
theorem dX8_closed_30 : decode cX8_closed 30 = .ok (.iload_n 1, 1) := by decide +kernel
theorem dX8_closed_31 : decode cX8_closed 31 = .ok (.iaload, 1) := by decide +kernel
theorem dX8_closed_32 : decode cX8_closed 32 = .ok (.iadd, 1) := by decide +kernel
theorem dX8_closed_33 : decode cX8_closed 33 = .ok (.if_icmp .ge 52, 3) := by decide +kernel
theorem dX8_closed_36 : decode cX8_closed 36 = .ok (.iload_n 3, 1) := by decide +kernel
theorem dX8_closed_37 : decode cX8_closed 37 = .ok (.aload_n 0, 1) := by decide +kernel
theorem dX8_closed_38 : decode cX8_closed 38 = .ok (.getfield 25, 3) := by decide +kernel
theorem dX8_closed_41 : decode cX8_closed 41 = .ok (.iload 5, 2) := by decide +kernel
theorem dX8_closed_43 : decode cX8_closed 43 = .ok (.iaload, 1) := by decide +kernel
theorem dX8_closed_44 : decode cX8_closed 44 = .ok (.bipush 8, 2) := by decide +kernel
theorem dX8_closed_46 : decode cX8_closed 46 = .ok (.if_icmp .ne 30, 3) := by decide +kernel
theorem dX8_closed_49 : decode cX8_closed 49 = .ok (.iload_n 3, 1) := by decide +kernel
theorem dX8_closed_50 : decode cX8_closed 50 = .ok (.aload_n 0, 1) := by decide +kernel
theorem dX8_closed_51 : decode cX8_closed 51 = .ok (.getfield 22, 3) := by decide +kernel
theorem dX8_closed_54 : decode cX8_closed 54 = .ok (.iload 5, 2) := by decide +kernel
theorem dX8_closed_56 : decode cX8_closed 56 = .ok (.iaload, 1) := by decide +kernel
theorem dX8_closed_57 : decode cX8_closed 57 = .ok (.ishr, 1) := by decide +kernel
theorem dX8_closed_58 : decode cX8_closed 58 = .ok (.iconst 1, 1) := by decide +kernel
theorem dX8_closed_59 : decode cX8_closed 59 = .ok (.iand, 1) := by decide +kernel
theorem dX8_closed_60 : decode cX8_closed 60 = .ok (.iconst 1, 1) := by decide +kernel
theorem dX8_closed_61 : decode cX8_closed 61 = .ok (.if_icmp .ne 15, 3) := by decide +kernel
theorem dX8_closed_64 : decode cX8_closed 64 = .ok (.iconst 1, 1) := by decide +kernel
theorem dX8_closed_65 : decode cX8_closed 65 = .ok (.aload_n 0, 1) := by decide +kernel
theorem dX8_closed_66 : decode cX8_closed 66 = .ok (.getfield 34, 3) := by decide +kernel
theorem dX8_closed_69 : decode cX8_closed 69 = .ok (.iload 5, 2) := by decide +kernel
theorem dX8_closed_71 : decode cX8_closed 71 = .ok (.iaload, 1) := by decide +kernel
theorem dX8_closed_72 : decode cX8_closed 72 = .ok (.ishl, 1) := by decide +kernel
theorem dX8_closed_73 : decode cX8_closed 73 = .ok (.goto 4, 3) := by decide +kernel
theorem dX8_closed_76 : decode cX8_closed 76 = .ok (.iconst 0, 1) := by decide +kernel
theorem dX8_closed_77 : decode cX8_closed 77 = .ok (.ior, 1) := by decide +kernel
theorem dX8_closed_78 : decode cX8_closed 78 = .ok (.istore_n 3, 1) := by decide +kernel
theorem dX8_closed_79 : decode cX8_closed 79 = .ok (.iinc 5 1, 3) := by decide +kernel
theorem dX8_closed_82 : decode cX8_closed 82 = .ok (.goto (-63), 3) := by decide +kernel
theorem dX8_closed_85 : decode cX8_closed 85 = .ok (.iinc 4 1, 3) := by decide +kernel
theorem dX8_closed_88 : decode cX8_closed 88 = .ok (.goto (-83), 3) := by decide +kernel
theorem dX8_closed_91 : decode cX8_closed 91 = .ok (.iload_n 3, 1) := by decide +kernel
theorem dX8_closed_92 : decode cX8_closed 92 = .ok (.ireturn, 1) := by decide +kernel
set_option maxRecDepth 20000 in
theorem ggX8_step_X8_closed : GoodIn wsX8_step wsX8_closed := goodIn_r _ [9, 1, 2, 3, 4, 10, 11, 12, 13, 14, 15, 16, 17, 18, 19, 20, 21, 22, 23, 24, 25, 26, 27, 28, 29, 30, 31, 32, 33, 34, 35, 36, 37, 38, 39, 40, 41, 42, 43, 44, 45, 46, 47, 48, 49, 50, 51, 52, 53, 54, 55, 56] rfl (by decide +kernel)
set_option maxRecDepth 20000 in
theorem gX8_step_X8_closed : GoodIn wsX8_step (wsV RX8 230 RX8 yX8_closed wsX8_closed) := goodIn_app (goodIn_of _ (by decide +kernel)) ggX8_step_X8_closed
theorem dX8_step_0 : decode cX8_step 0 = .ok (.iconst 0, 1) := by decide +kernel
theorem dX8_step_1 : decode cX8_step 1 = .ok (.istore 4, 2) := by decide +kernel
theorem dX8_step_3 : decode cX8_step 3 = .ok (.sipush 160, 3) := by decide +kernel
theorem dX8_step_6 : decode cX8_step 6 = .ok (.iload_n 1, 1) := by decide +kernel
theorem dX8_step_7 : decode cX8_step 7 = .ok (.imul, 1) := by decide +kernel
theorem dX8_step_8 : decode cX8_step 8 = .ok (.istore 5, 2) := by decide +kernel
theorem dX8_step_10 : decode cX8_step 10 = .ok (.iload 5, 2) := by decide +kernel
theorem dX8_step_12 : decode cX8_step 12 = .ok (.sipush 160, 3) := by decide +kernel
theorem dX8_step_15 : decode cX8_step 15 = .ok (.iload_n 1, 1) := by decide +kernel
theorem dX8_step_16 : decode cX8_step 16 = .ok (.imul, 1) := by decide +kernel
theorem dX8_step_17 : decode cX8_step 17 = .ok (.aload_n 0, 1) := by decide +kernel
theorem dX8_step_18 : decode cX8_step 18 = .ok (.getfield 19, 3) := by decide +kernel
theorem dX8_step_21 : decode cX8_step 21 = .ok (.iload_n 1, 1) := by decide +kernel
theorem dX8_step_22 : decode cX8_step 22 = .ok (.iaload, 1) := by decide +kernel
theorem dX8_step_23 : decode cX8_step 23 = .ok (.iadd, 1) := by decide +kernel
theorem dX8_step_24 : decode cX8_step 24 = .ok (.if_icmp .ge 53, 3) := by decide +kernel
theorem dX8_step_27 : decode cX8_step 27 = .ok (.iload 4, 2) := by decide +kernel
theorem dX8_step_29 : decode cX8_step 29 = .ok (.aload_n 0, 1) := by decide +kernel
theorem dX8_step_30 : decode cX8_step 30 = .ok (.getfield 25, 3) := by decide +kernel
theorem dX8_step_33 : decode cX8_step 33 = .ok (.iload 5, 2) := by decide +kernel
theorem dX8_step_35 : decode cX8_step 35 = .ok (.iaload, 1) := by decide +kernel
theorem dX8_step_36 : decode cX8_step 36 = .ok (.iload_n 3, 1) := by decide +kernel
theorem dX8_step_37 : decode cX8_step 37 = .ok (.if_icmp .ne 30, 3) := by decide +kernel
theorem dX8_step_40 : decode cX8_step 40 = .ok (.iload_n 2, 1) := by decide +kernel
theorem dX8_step_41 : decode cX8_step 41 = .ok (.aload_n 0, 1) := by decide +kernel
theorem dX8_step_42 : decode cX8_step 42 = .ok (.getfield 22, 3) := by decide +kernel
theorem dX8_step_45 : decode cX8_step 45 = .ok (.iload 5, 2) := by decide +kernel
theorem dX8_step_47 : decode cX8_step 47 = .ok (.iaload, 1) := by decide +kernel
theorem dX8_step_48 : decode cX8_step 48 = .ok (.ishr, 1) := by decide +kernel
theorem dX8_step_49 : decode cX8_step 49 = .ok (.iconst 1, 1) := by decide +kernel
theorem dX8_step_50 : decode cX8_step 50 = .ok (.iand, 1) := by decide +kernel
theorem dX8_step_51 : decode cX8_step 51 = .ok (.iconst 1, 1) := by decide +kernel
theorem dX8_step_52 : decode cX8_step 52 = .ok (.if_icmp .ne 15, 3) := by decide +kernel
theorem dX8_step_55 : decode cX8_step 55 = .ok (.iconst 1, 1) := by decide +kernel
theorem dX8_step_56 : decode cX8_step 56 = .ok (.aload_n 0, 1) := by decide +kernel
theorem dX8_step_57 : decode cX8_step 57 = .ok (.getfield 34, 3) := by decide +kernel
theorem dX8_step_60 : decode cX8_step 60 = .ok (.iload 5, 2) := by decide +kernel
theorem dX8_step_62 : decode cX8_step 62 = .ok (.iaload, 1) := by decide +kernel
theorem dX8_step_63 : decode cX8_step 63 = .ok (.ishl, 1) := by decide +kernel
theorem dX8_step_64 : decode cX8_step 64 = .ok (.goto 4, 3) := by decide +kernel
theorem dX8_step_67 : decode cX8_step 67 = .ok (.iconst 0, 1) := by decide +kernel
theorem dX8_step_68 : decode cX8_step 68 = .ok (.ior, 1) := by decide +kernel
theorem dX8_step_69 : decode cX8_step 69 = .ok (.istore 4, 2) := by decide +kernel
theorem dX8_step_71 : decode cX8_step 71 = .ok (.iinc 5 1, 3) := by decide +kernel
theorem dX8_step_74 : decode cX8_step 74 = .ok (.goto (-64), 3) := by decide +kernel
theorem dX8_step_77 : decode cX8_step 77 = .ok (.aload_n 0, 1) := by decide +kernel
theorem dX8_step_78 : decode cX8_step 78 = .ok (.iload_n 1, 1) := by decide +kernel
theorem dX8_step_79 : decode cX8_step 79 = .ok (.iload 4, 2) := by decide +kernel
theorem dX8_step_81 : decode cX8_step 81 = .ok (.invokevirtual 230, 3) := by decide +kernel
theorem dX8_step_84 : decode cX8_step 84 = .ok (.ireturn, 1) := by decide +kernel
theorem dX8_placeOf_0 : decode cX8_placeOf 0 = .ok (.iconst 0, 1) := by decide +kernel
theorem dX8_placeOf_1 : decode cX8_placeOf 1 = .ok (.istore 5, 2) := by decide +kernel
theorem dX8_placeOf_3 : decode cX8_placeOf 3 = .ok (.iload 5, 2) := by decide +kernel
theorem dX8_placeOf_5 : decode cX8_placeOf 5 = .ok (.aload_n 0, 1) := by decide +kernel
theorem dX8_placeOf_6 : decode cX8_placeOf 6 = .ok (.getfield 233, 3) := by decide +kernel
theorem dX8_placeOf_9 : decode cX8_placeOf 9 = .ok (.if_icmp .ge 34, 3) := by decide +kernel
theorem dX8_placeOf_12 : decode cX8_placeOf 12 = .ok (.aload_n 0, 1) := by decide +kernel
theorem dX8_placeOf_13 : decode cX8_placeOf 13 = .ok (.getfield 75, 3) := by decide +kernel
theorem dX8_placeOf_16 : decode cX8_placeOf 16 = .ok (.iload 5, 2) := by decide +kernel
theorem dX8_placeOf_18 : decode cX8_placeOf 18 = .ok (.iaload, 1) := by decide +kernel
theorem dX8_placeOf_19 : decode cX8_placeOf 19 = .ok (.iload_n 1, 1) := by decide +kernel
theorem dX8_placeOf_20 : decode cX8_placeOf 20 = .ok (.if_icmp .ne 17, 3) := by decide +kernel
theorem dX8_placeOf_23 : decode cX8_placeOf 23 = .ok (.aload_n 0, 1) := by decide +kernel
theorem dX8_placeOf_24 : decode cX8_placeOf 24 = .ok (.getfield 78, 3) := by decide +kernel
theorem dX8_placeOf_27 : decode cX8_placeOf 27 = .ok (.iload 5, 2) := by decide +kernel
theorem dX8_placeOf_29 : decode cX8_placeOf 29 = .ok (.iaload, 1) := by decide +kernel
theorem dX8_placeOf_30 : decode cX8_placeOf 30 = .ok (.iload_n 2, 1) := by decide +kernel
theorem dX8_placeOf_31 : decode cX8_placeOf 31 = .ok (.if_icmp .ne 6, 3) := by decide +kernel
theorem dX8_placeOf_34 : decode cX8_placeOf 34 = .ok (.iload 5, 2) := by decide +kernel
theorem dX8_placeOf_36 : decode cX8_placeOf 36 = .ok (.ireturn, 1) := by decide +kernel
theorem dX8_placeOf_37 : decode cX8_placeOf 37 = .ok (.iinc 5 1, 3) := by decide +kernel
theorem dX8_placeOf_40 : decode cX8_placeOf 40 = .ok (.goto (-37), 3) := by decide +kernel
theorem dX8_placeOf_43 : decode cX8_placeOf 43 = .ok (.aload_n 0, 1) := by decide +kernel
theorem dX8_placeOf_44 : decode cX8_placeOf 44 = .ok (.getfield 233, 3) := by decide +kernel
theorem dX8_placeOf_47 : decode cX8_placeOf 47 = .ok (.sipush 200, 3) := by decide +kernel
theorem dX8_placeOf_50 : decode cX8_placeOf 50 = .ok (.if_icmp .ne 5, 3) := by decide +kernel
theorem dX8_placeOf_53 : decode cX8_placeOf 53 = .ok (.iconst (-1), 1) := by decide +kernel
theorem dX8_placeOf_54 : decode cX8_placeOf 54 = .ok (.ireturn, 1) := by decide +kernel
theorem dX8_placeOf_55 : decode cX8_placeOf 55 = .ok (.aload_n 0, 1) := by decide +kernel
theorem dX8_placeOf_56 : decode cX8_placeOf 56 = .ok (.getfield 75, 3) := by decide +kernel
theorem dX8_placeOf_59 : decode cX8_placeOf 59 = .ok (.aload_n 0, 1) := by decide +kernel
theorem dX8_placeOf_60 : decode cX8_placeOf 60 = .ok (.getfield 233, 3) := by decide +kernel
theorem dX8_placeOf_63 : decode cX8_placeOf 63 = .ok (.iload_n 1, 1) := by decide +kernel
theorem dX8_placeOf_64 : decode cX8_placeOf 64 = .ok (.iastore, 1) := by decide +kernel
theorem dX8_placeOf_65 : decode cX8_placeOf 65 = .ok (.aload_n 0, 1) := by decide +kernel
theorem dX8_placeOf_66 : decode cX8_placeOf 66 = .ok (.getfield 78, 3) := by decide +kernel
theorem dX8_placeOf_69 : decode cX8_placeOf 69 = .ok (.aload_n 0, 1) := by decide +kernel
theorem dX8_placeOf_70 : decode cX8_placeOf 70 = .ok (.getfield 233, 3) := by decide +kernel
theorem dX8_placeOf_73 : decode cX8_placeOf 73 = .ok (.iload_n 2, 1) := by decide +kernel
theorem dX8_placeOf_74 : decode cX8_placeOf 74 = .ok (.iastore, 1) := by decide +kernel
theorem dX8_placeOf_75 : decode cX8_placeOf 75 = .ok (.aload_n 0, 1) := by decide +kernel
theorem dX8_placeOf_76 : decode cX8_placeOf 76 = .ok (.getfield 84, 3) := by decide +kernel
theorem dX8_placeOf_79 : decode cX8_placeOf 79 = .ok (.aload_n 0, 1) := by decide +kernel
theorem dX8_placeOf_80 : decode cX8_placeOf 80 = .ok (.getfield 233, 3) := by decide +kernel
theorem dX8_placeOf_83 : decode cX8_placeOf 83 = .ok (.iload_n 3, 1) := by decide +kernel
theorem dX8_placeOf_84 : decode cX8_placeOf 84 = .ok (.iastore, 1) := by decide +kernel
theorem dX8_placeOf_85 : decode cX8_placeOf 85 = .ok (.aload_n 0, 1) := by decide +kernel
theorem dX8_placeOf_86 : decode cX8_placeOf 86 = .ok (.getfield 87, 3) := by decide +kernel
theorem dX8_placeOf_89 : decode cX8_placeOf 89 = .ok (.aload_n 0, 1) := by decide +kernel
theorem dX8_placeOf_90 : decode cX8_placeOf 90 = .ok (.getfield 233, 3) := by decide +kernel
theorem dX8_placeOf_93 : decode cX8_placeOf 93 = .ok (.iload 4, 2) := by decide +kernel
theorem dX8_placeOf_95 : decode cX8_placeOf 95 = .ok (.iastore, 1) := by decide +kernel
theorem dX8_placeOf_96 : decode cX8_placeOf 96 = .ok (.aload_n 0, 1) := by decide +kernel
theorem dX8_placeOf_97 : decode cX8_placeOf 97 = .ok (.dup, 1) := by decide +kernel
theorem dX8_placeOf_98 : decode cX8_placeOf 98 = .ok (.getfield 233, 3) := by decide +kernel
theorem dX8_placeOf_101 : decode cX8_placeOf 101 = .ok (.iconst 1, 1) := by decide +kernel
theorem dX8_placeOf_102 : decode cX8_placeOf 102 = .ok (.iadd, 1) := by decide +kernel
theorem dX8_placeOf_103 : decode cX8_placeOf 103 = .ok (.putfield 233, 3) := by decide +kernel
theorem dX8_placeOf_106 : decode cX8_placeOf 106 = .ok (.aload_n 0, 1) := by decide +kernel
theorem dX8_placeOf_107 : decode cX8_placeOf 107 = .ok (.getfield 233, 3) := by decide +kernel
theorem dX8_placeOf_110 : decode cX8_placeOf 110 = .ok (.iconst 1, 1) := by decide +kernel
theorem dX8_placeOf_111 : decode cX8_placeOf 111 = .ok (.isub, 1) := by decide +kernel
theorem dX8_placeOf_112 : decode cX8_placeOf 112 = .ok (.ireturn, 1) := by decide +kernel
theorem dX8_isKept_0 : decode cX8_isKept 0 = .ok (.iload_n 0, 1) := by decide +kernel
theorem dX8_isKept_1 : decode cX8_isKept 1 = .ok (.iconst 1, 1) := by decide +kernel
theorem dX8_isKept_2 : decode cX8_isKept 2 = .ok (.if_icmp .ne 19, 3) := by decide +kernel
theorem dX8_isKept_5 : decode cX8_isKept 5 = .ok (.iload_n 1, 1) := by decide +kernel
theorem dX8_isKept_6 : decode cX8_isKept 6 = .ok (.ifCond .eq 11, 3) := by decide +kernel
theorem dX8_isKept_9 : decode cX8_isKept 9 = .ok (.iload_n 2, 1) := by decide +kernel
theorem dX8_isKept_10 : decode cX8_isKept 10 = .ok (.ifCond .eq 7, 3) := by decide +kernel
theorem dX8_isKept_13 : decode cX8_isKept 13 = .ok (.iconst 1, 1) := by decide +kernel
theorem dX8_isKept_14 : decode cX8_isKept 14 = .ok (.goto 37, 3) := by decide +kernel
theorem dX8_isKept_17 : decode cX8_isKept 17 = .ok (.iconst 0, 1) := by decide +kernel
theorem dX8_isKept_18 : decode cX8_isKept 18 = .ok (.goto 33, 3) := by decide +kernel
theorem dX8_isKept_21 : decode cX8_isKept 21 = .ok (.iload_n 0, 1) := by decide +kernel
theorem dX8_isKept_22 : decode cX8_isKept 22 = .ok (.iconst 3, 1) := by decide +kernel
theorem dX8_isKept_23 : decode cX8_isKept 23 = .ok (.if_icmp .ne 19, 3) := by decide +kernel
theorem dX8_isKept_26 : decode cX8_isKept 26 = .ok (.iload_n 1, 1) := by decide +kernel
theorem dX8_isKept_27 : decode cX8_isKept 27 = .ok (.ifCond .ne 7, 3) := by decide +kernel
theorem dX8_isKept_30 : decode cX8_isKept 30 = .ok (.iload_n 2, 1) := by decide +kernel
theorem dX8_isKept_31 : decode cX8_isKept 31 = .ok (.ifCond .eq 7, 3) := by decide +kernel
theorem dX8_isKept_34 : decode cX8_isKept 34 = .ok (.iconst 1, 1) := by decide +kernel
theorem dX8_isKept_35 : decode cX8_isKept 35 = .ok (.goto 16, 3) := by decide +kernel
theorem dX8_isKept_38 : decode cX8_isKept 38 = .ok (.iconst 0, 1) := by decide +kernel
theorem dX8_isKept_39 : decode cX8_isKept 39 = .ok (.goto 12, 3) := by decide +kernel
theorem dX8_isKept_42 : decode cX8_isKept 42 = .ok (.iload_n 1, 1) := by decide +kernel
theorem dX8_isKept_43 : decode cX8_isKept 43 = .ok (.ifCond .eq 7, 3) := by decide +kernel
theorem dX8_isKept_46 : decode cX8_isKept 46 = .ok (.iconst 1, 1) := by decide +kernel
theorem dX8_isKept_47 : decode cX8_isKept 47 = .ok (.goto 4, 3) := by decide +kernel
theorem dX8_isKept_50 : decode cX8_isKept 50 = .ok (.iconst 0, 1) := by decide +kernel
theorem dX8_isKept_51 : decode cX8_isKept 51 = .ok (.ireturn, 1) := by decide +kernel
set_option maxRecDepth 20000 in
theorem ggX8_looks_X8_closed : GoodIn wsX8_looks wsX8_closed := goodIn_r _ [9, 10, 11, 12, 13, 27, 28, 29, 30, 31, 32, 33, 34, 35, 36, 37, 38, 39, 40, 41, 42, 43, 44, 45, 46, 47, 48, 49, 50, 51, 52, 53, 54, 55, 56, 57, 58, 59, 60, 61, 62, 63, 64, 65, 66, 67, 68, 69, 70, 71, 72, 73] rfl (by decide +kernel)
set_option maxRecDepth 20000 in
theorem gX8_looks_X8_closed : GoodIn wsX8_looks (wsV RX8 230 RX8 yX8_closed wsX8_closed) := goodIn_app (goodIn_of _ (by decide +kernel)) ggX8_looks_X8_closed
set_option maxRecDepth 20000 in
theorem ggX8_looks_X8_placeOf : GoodIn wsX8_looks wsX8_placeOf := goodIn_r _ [17, 1, 2, 3, 18, 19, 27, 28, 29, 30, 31, 32, 33, 34, 35, 36, 37, 38, 39, 40, 41, 42, 43, 44, 45, 46, 47, 48, 49, 50, 51, 52, 53, 54, 55, 56, 57, 58, 59, 60, 61, 62, 63, 64, 65, 66, 67, 68, 69, 70, 71, 72, 73] rfl (by decide +kernel)
set_option maxRecDepth 20000 in
theorem gX8_looks_X8_placeOf : GoodIn wsX8_looks (wsV RX8 236 RX8 yX8_placeOf wsX8_placeOf) := goodIn_app (goodIn_of _ (by decide +kernel)) ggX8_looks_X8_placeOf
set_option maxRecDepth 20000 in
theorem ggX8_looks_X8_step : GoodIn wsX8_looks wsX8_step := goodIn_r _ [23, 10, 11, 12, 13, 5, 6, 7, 8, 9, 27, 28, 29, 30, 31, 32, 33, 34, 35, 36, 37, 38, 39, 40, 41, 42, 43, 44, 45, 46, 47, 48, 49, 50, 51, 52, 53, 54, 55, 56, 57, 58, 59, 60, 61, 62, 63, 64, 65, 66, 67, 68, 69, 70, 71, 72, 73] rfl (by decide +kernel)
set_option maxRecDepth 20000 in
theorem gX8_looks_X8_step : GoodIn wsX8_looks (wsV RX8 240 RX8 yX8_step wsX8_step) := goodIn_app (goodIn_of _ (by decide +kernel)) ggX8_looks_X8_step
set_option maxRecDepth 20000 in
theorem ggX8_looks_X8_isKept : GoodIn wsX8_looks wsX8_isKept := goodIn_r _ [26] rfl (by decide +kernel)
set_option maxRecDepth 20000 in
theorem gX8_looks_X8_isKept : GoodIn wsX8_looks (va_wsS RX8 244 yX8_isKept wsX8_isKept) := goodIn_app (goodIn_of _ (by decide +kernel)) ggX8_looks_X8_isKept
theorem dX8_looks_0 : decode cX8_looks 0 = .ok (.aload_n 0, 1) := by decide +kernel
theorem dX8_looks_1 : decode cX8_looks 1 = .ok (.iconst 0, 1) := by decide +kernel
theorem dX8_looks_2 : decode cX8_looks 2 = .ok (.putfield 233, 3) := by decide +kernel
theorem dX8_looks_5 : decode cX8_looks 5 = .ok (.aload_n 0, 1) := by decide +kernel
theorem dX8_looks_6 : decode cX8_looks 6 = .ok (.aload_n 0, 1) := by decide +kernel
theorem dX8_looks_7 : decode cX8_looks 7 = .ok (.iload_n 1, 1) := by decide +kernel
theorem dX8_looks_8 : decode cX8_looks 8 = .ok (.iconst 1, 1) := by decide +kernel
theorem dX8_looks_9 : decode cX8_looks 9 = .ok (.invokevirtual 230, 3) := by decide +kernel
theorem dX8_looks_12 : decode cX8_looks 12 = .ok (.iload_n 3, 1) := by decide +kernel
theorem dX8_looks_13 : decode cX8_looks 13 = .ok (.ifCond .ne 7, 3) := by decide +kernel
theorem dX8_looks_16 : decode cX8_looks 16 = .ok (.iconst 0, 1) := by decide +kernel
theorem dX8_looks_17 : decode cX8_looks 17 = .ok (.goto 9, 3) := by decide +kernel
theorem dX8_looks_20 : decode cX8_looks 20 = .ok (.aload_n 0, 1) := by decide +kernel
theorem dX8_looks_21 : decode cX8_looks 21 = .ok (.iload_n 2, 1) := by decide +kernel
theorem dX8_looks_22 : decode cX8_looks 22 = .ok (.iconst 1, 1) := by decide +kernel
theorem dX8_looks_23 : decode cX8_looks 23 = .ok (.invokevirtual 230, 3) := by decide +kernel
theorem dX8_looks_26 : decode cX8_looks 26 = .ok (.iconst (-1), 1) := by decide +kernel
theorem dX8_looks_27 : decode cX8_looks 27 = .ok (.iconst 0, 1) := by decide +kernel
theorem dX8_looks_28 : decode cX8_looks 28 = .ok (.invokevirtual 236, 3) := by decide +kernel
theorem dX8_looks_31 : decode cX8_looks 31 = .ok (.ifCond .ne 7, 3) := by decide +kernel
theorem dX8_looks_34 : decode cX8_looks 34 = .ok (.iconst 1, 1) := by decide +kernel
theorem dX8_looks_35 : decode cX8_looks 35 = .ok (.goto 4, 3) := by decide +kernel
theorem dX8_looks_38 : decode cX8_looks 38 = .ok (.iconst 0, 1) := by decide +kernel
theorem dX8_looks_39 : decode cX8_looks 39 = .ok (.istore 4, 2) := by decide +kernel
theorem dX8_looks_41 : decode cX8_looks 41 = .ok (.iconst 0, 1) := by decide +kernel
theorem dX8_looks_42 : decode cX8_looks 42 = .ok (.istore 5, 2) := by decide +kernel
theorem dX8_looks_44 : decode cX8_looks 44 = .ok (.iload 5, 2) := by decide +kernel
theorem dX8_looks_46 : decode cX8_looks 46 = .ok (.aload_n 0, 1) := by decide +kernel
theorem dX8_looks_47 : decode cX8_looks 47 = .ok (.getfield 233, 3) := by decide +kernel
theorem dX8_looks_50 : decode cX8_looks 50 = .ok (.if_icmp .ge 149, 3) := by decide +kernel
theorem dX8_looks_53 : decode cX8_looks 53 = .ok (.iload 4, 2) := by decide +kernel
theorem dX8_looks_55 : decode cX8_looks 55 = .ok (.ifCond .eq 144, 3) := by decide +kernel
theorem dX8_looks_58 : decode cX8_looks 58 = .ok (.iconst 0, 1) := by decide +kernel
theorem dX8_looks_59 : decode cX8_looks 59 = .ok (.istore 6, 2) := by decide +kernel
theorem dX8_looks_61 : decode cX8_looks 61 = .ok (.iload 6, 2) := by decide +kernel
theorem dX8_looks_63 : decode cX8_looks 63 = .ok (.bipush 8, 2) := by decide +kernel
theorem dX8_looks_65 : decode cX8_looks 65 = .ok (.if_icmp .ge 128, 3) := by decide +kernel
theorem dX8_looks_68 : decode cX8_looks 68 = .ok (.iload 4, 2) := by decide +kernel
theorem dX8_looks_70 : decode cX8_looks 70 = .ok (.ifCond .eq 123, 3) := by decide +kernel
theorem dX8_looks_73 : decode cX8_looks 73 = .ok (.aload_n 0, 1) := by decide +kernel
theorem dX8_looks_74 : decode cX8_looks 74 = .ok (.iload_n 1, 1) := by decide +kernel
theorem dX8_looks_75 : decode cX8_looks 75 = .ok (.aload_n 0, 1) := by decide +kernel
theorem dX8_looks_76 : decode cX8_looks 76 = .ok (.getfield 75, 3) := by decide +kernel
theorem dX8_looks_79 : decode cX8_looks 79 = .ok (.iload 5, 2) := by decide +kernel
theorem dX8_looks_81 : decode cX8_looks 81 = .ok (.iaload, 1) := by decide +kernel
theorem dX8_looks_82 : decode cX8_looks 82 = .ok (.iload 6, 2) := by decide +kernel
theorem dX8_looks_84 : decode cX8_looks 84 = .ok (.invokevirtual 240, 3) := by decide +kernel
theorem dX8_looks_87 : decode cX8_looks 87 = .ok (.istore 7, 2) := by decide +kernel
theorem dX8_looks_89 : decode cX8_looks 89 = .ok (.iload_n 3, 1) := by decide +kernel
theorem dX8_looks_90 : decode cX8_looks 90 = .ok (.ifCond .ne 7, 3) := by decide +kernel
theorem dX8_looks_93 : decode cX8_looks 93 = .ok (.iconst 0, 1) := by decide +kernel
theorem dX8_looks_94 : decode cX8_looks 94 = .ok (.goto 17, 3) := by decide +kernel
theorem dX8_looks_97 : decode cX8_looks 97 = .ok (.aload_n 0, 1) := by decide +kernel
theorem dX8_looks_98 : decode cX8_looks 98 = .ok (.iload_n 2, 1) := by decide +kernel
theorem dX8_looks_99 : decode cX8_looks 99 = .ok (.aload_n 0, 1) := by decide +kernel
theorem dX8_looks_100 : decode cX8_looks 100 = .ok (.getfield 78, 3) := by decide +kernel
theorem dX8_looks_103 : decode cX8_looks 103 = .ok (.iload 5, 2) := by decide +kernel
theorem dX8_looks_105 : decode cX8_looks 105 = .ok (.iaload, 1) := by decide +kernel
theorem dX8_looks_106 : decode cX8_looks 106 = .ok (.iload 6, 2) := by decide +kernel
theorem dX8_looks_108 : decode cX8_looks 108 = .ok (.invokevirtual 240, 3) := by decide +kernel
theorem dX8_looks_111 : decode cX8_looks 111 = .ok (.istore 8, 2) := by decide +kernel
theorem dX8_looks_113 : decode cX8_looks 113 = .ok (.aload_n 0, 1) := by decide +kernel
theorem dX8_looks_114 : decode cX8_looks 114 = .ok (.getfield 81, 3) := by decide +kernel
theorem dX8_looks_117 : decode cX8_looks 117 = .ok (.bipush 8, 2) := by decide +kernel
theorem dX8_looks_119 : decode cX8_looks 119 = .ok (.iload 5, 2) := by decide +kernel
theorem dX8_looks_121 : decode cX8_looks 121 = .ok (.imul, 1) := by decide +kernel
theorem dX8_looks_122 : decode cX8_looks 122 = .ok (.iload 6, 2) := by decide +kernel
theorem dX8_looks_124 : decode cX8_looks 124 = .ok (.iadd, 1) := by decide +kernel
theorem dX8_looks_125 : decode cX8_looks 125 = .ok (.iconst (-1), 1) := by decide +kernel
theorem dX8_looks_126 : decode cX8_looks 126 = .ok (.iastore, 1) := by decide +kernel
theorem dX8_looks_127 : decode cX8_looks 127 = .ok (.iload_n 3, 1) := by decide +kernel
theorem dX8_looks_128 : decode cX8_looks 128 = .ok (.iload 7, 2) := by decide +kernel
theorem dX8_looks_130 : decode cX8_looks 130 = .ok (.iload 8, 2) := by decide +kernel
theorem dX8_looks_132 : decode cX8_looks 132 = .ok (.invokestatic 244, 3) := by decide +kernel
theorem dX8_looks_135 : decode cX8_looks 135 = .ok (.ifCond .eq 52, 3) := by decide +kernel
theorem dX8_looks_138 : decode cX8_looks 138 = .ok (.aload_n 0, 1) := by decide +kernel
theorem dX8_looks_139 : decode cX8_looks 139 = .ok (.getfield 81, 3) := by decide +kernel
theorem dX8_looks_142 : decode cX8_looks 142 = .ok (.bipush 8, 2) := by decide +kernel
theorem dX8_looks_144 : decode cX8_looks 144 = .ok (.iload 5, 2) := by decide +kernel
theorem dX8_looks_146 : decode cX8_looks 146 = .ok (.imul, 1) := by decide +kernel
theorem dX8_looks_147 : decode cX8_looks 147 = .ok (.iload 6, 2) := by decide +kernel
theorem dX8_looks_149 : decode cX8_looks 149 = .ok (.iadd, 1) := by decide +kernel
theorem dX8_looks_150 : decode cX8_looks 150 = .ok (.aload_n 0, 1) := by decide +kernel
theorem dX8_looks_151 : decode cX8_looks 151 = .ok (.iload 7, 2) := by decide +kernel
theorem dX8_looks_153 : decode cX8_looks 153 = .ok (.iload 8, 2) := by decide +kernel
theorem dX8_looks_155 : decode cX8_looks 155 = .ok (.iload 5, 2) := by decide +kernel
theorem dX8_looks_157 : decode cX8_looks 157 = .ok (.iload 6, 2) := by decide +kernel
theorem dX8_looks_159 : decode cX8_looks 159 = .ok (.invokevirtual 236, 3) := by decide +kernel
theorem dX8_looks_162 : decode cX8_looks 162 = .ok (.iastore, 1) := by decide +kernel
theorem dX8_looks_163 : decode cX8_looks 163 = .ok (.aload_n 0, 1) := by decide +kernel
theorem dX8_looks_164 : decode cX8_looks 164 = .ok (.getfield 81, 3) := by decide +kernel
theorem dX8_looks_167 : decode cX8_looks 167 = .ok (.bipush 8, 2) := by decide +kernel
theorem dX8_looks_169 : decode cX8_looks 169 = .ok (.iload 5, 2) := by decide +kernel
theorem dX8_looks_171 : decode cX8_looks 171 = .ok (.imul, 1) := by decide +kernel
theorem dX8_looks_172 : decode cX8_looks 172 = .ok (.iload 6, 2) := by decide +kernel
theorem dX8_looks_174 : decode cX8_looks 174 = .ok (.iadd, 1) := by decide +kernel
theorem dX8_looks_175 : decode cX8_looks 175 = .ok (.iaload, 1) := by decide +kernel
theorem dX8_looks_176 : decode cX8_looks 176 = .ok (.iconst (-1), 1) := by decide +kernel
theorem dX8_looks_177 : decode cX8_looks 177 = .ok (.if_icmp .eq 7, 3) := by decide +kernel
theorem dX8_looks_180 : decode cX8_looks 180 = .ok (.iconst 1, 1) := by decide +kernel
theorem dX8_looks_181 : decode cX8_looks 181 = .ok (.goto 4, 3) := by decide +kernel
theorem dX8_looks_184 : decode cX8_looks 184 = .ok (.iconst 0, 1) := by decide +kernel
theorem dX8_looks_185 : decode cX8_looks 185 = .ok (.istore 4, 2) := by decide +kernel
theorem dX8_looks_187 : decode cX8_looks 187 = .ok (.iinc 6 1, 3) := by decide +kernel
theorem dX8_looks_190 : decode cX8_looks 190 = .ok (.goto (-129), 3) := by decide +kernel
theorem dX8_looks_193 : decode cX8_looks 193 = .ok (.iinc 5 1, 3) := by decide +kernel
theorem dX8_looks_196 : decode cX8_looks 196 = .ok (.goto (-152), 3) := by decide +kernel
theorem dX8_looks_199 : decode cX8_looks 199 = .ok (.iload 4, 2) := by decide +kernel
theorem dX8_looks_201 : decode cX8_looks 201 = .ok (.ireturn, 1) := by decide +kernel
theorem dX8_isAccepted_0 : decode cX8_isAccepted 0 = .ok (.aload_n 0, 1) := by decide +kernel
theorem dX8_isAccepted_1 : decode cX8_isAccepted 1 = .ok (.getfield 75, 3) := by decide +kernel
theorem dX8_isAccepted_4 : decode cX8_isAccepted 4 = .ok (.iload_n 1, 1) := by decide +kernel
theorem dX8_isAccepted_5 : decode cX8_isAccepted 5 = .ok (.iaload, 1) := by decide +kernel
theorem dX8_isAccepted_6 : decode cX8_isAccepted 6 = .ok (.aload_n 0, 1) := by decide +kernel
theorem dX8_isAccepted_7 : decode cX8_isAccepted 7 = .ok (.getfield 16, 3) := by decide +kernel
theorem dX8_isAccepted_10 : decode cX8_isAccepted 10 = .ok (.iload_n 2, 1) := by decide +kernel
theorem dX8_isAccepted_11 : decode cX8_isAccepted 11 = .ok (.iaload, 1) := by decide +kernel
theorem dX8_isAccepted_12 : decode cX8_isAccepted 12 = .ok (.iand, 1) := by decide +kernel
theorem dX8_isAccepted_13 : decode cX8_isAccepted 13 = .ok (.ifCond .eq 7, 3) := by decide +kernel
theorem dX8_isAccepted_16 : decode cX8_isAccepted 16 = .ok (.iconst 1, 1) := by decide +kernel
theorem dX8_isAccepted_17 : decode cX8_isAccepted 17 = .ok (.goto 4, 3) := by decide +kernel
theorem dX8_isAccepted_20 : decode cX8_isAccepted 20 = .ok (.iconst 0, 1) := by decide +kernel
theorem dX8_isAccepted_21 : decode cX8_isAccepted 21 = .ok (.istore 5, 2) := by decide +kernel
theorem dX8_isAccepted_23 : decode cX8_isAccepted 23 = .ok (.iload 4, 2) := by decide +kernel
theorem dX8_isAccepted_25 : decode cX8_isAccepted 25 = .ok (.ifCond .eq 23, 3) := by decide +kernel
theorem dX8_isAccepted_28 : decode cX8_isAccepted 28 = .ok (.aload_n 0, 1) := by decide +kernel
theorem dX8_isAccepted_29 : decode cX8_isAccepted 29 = .ok (.getfield 78, 3) := by decide +kernel
theorem dX8_isAccepted_32 : decode cX8_isAccepted 32 = .ok (.iload_n 1, 1) := by decide +kernel
theorem dX8_isAccepted_33 : decode cX8_isAccepted 33 = .ok (.iaload, 1) := by decide +kernel
theorem dX8_isAccepted_34 : decode cX8_isAccepted 34 = .ok (.aload_n 0, 1) := by decide +kernel
theorem dX8_isAccepted_35 : decode cX8_isAccepted 35 = .ok (.getfield 16, 3) := by decide +kernel
theorem dX8_isAccepted_38 : decode cX8_isAccepted 38 = .ok (.iload_n 3, 1) := by decide +kernel
theorem dX8_isAccepted_39 : decode cX8_isAccepted 39 = .ok (.iaload, 1) := by decide +kernel
theorem dX8_isAccepted_40 : decode cX8_isAccepted 40 = .ok (.iand, 1) := by decide +kernel
theorem dX8_isAccepted_41 : decode cX8_isAccepted 41 = .ok (.ifCond .eq 7, 3) := by decide +kernel
theorem dX8_isAccepted_44 : decode cX8_isAccepted 44 = .ok (.iconst 1, 1) := by decide +kernel
theorem dX8_isAccepted_45 : decode cX8_isAccepted 45 = .ok (.goto 4, 3) := by decide +kernel
theorem dX8_isAccepted_48 : decode cX8_isAccepted 48 = .ok (.iconst 0, 1) := by decide +kernel
theorem dX8_isAccepted_49 : decode cX8_isAccepted 49 = .ok (.istore 6, 2) := by decide +kernel
theorem dX8_isAccepted_51 : decode cX8_isAccepted 51 = .ok (.iload 4, 2) := by decide +kernel
theorem dX8_isAccepted_53 : decode cX8_isAccepted 53 = .ok (.ifCond .ne 8, 3) := by decide +kernel
theorem dX8_isAccepted_56 : decode cX8_isAccepted 56 = .ok (.iload 5, 2) := by decide +kernel
theorem dX8_isAccepted_58 : decode cX8_isAccepted 58 = .ok (.goto 63, 3) := by decide +kernel
theorem dX8_isAccepted_61 : decode cX8_isAccepted 61 = .ok (.iload 4, 2) := by decide +kernel
theorem dX8_isAccepted_63 : decode cX8_isAccepted 63 = .ok (.iconst 1, 1) := by decide +kernel
theorem dX8_isAccepted_64 : decode cX8_isAccepted 64 = .ok (.if_icmp .ne 21, 3) := by decide +kernel
theorem dX8_isAccepted_67 : decode cX8_isAccepted 67 = .ok (.iload 5, 2) := by decide +kernel
theorem dX8_isAccepted_69 : decode cX8_isAccepted 69 = .ok (.ifCond .eq 12, 3) := by decide +kernel
theorem dX8_isAccepted_72 : decode cX8_isAccepted 72 = .ok (.iload 6, 2) := by decide +kernel
theorem dX8_isAccepted_74 : decode cX8_isAccepted 74 = .ok (.ifCond .eq 7, 3) := by decide +kernel
theorem dX8_isAccepted_77 : decode cX8_isAccepted 77 = .ok (.iconst 1, 1) := by decide +kernel
theorem dX8_isAccepted_78 : decode cX8_isAccepted 78 = .ok (.goto 43, 3) := by decide +kernel
theorem dX8_isAccepted_81 : decode cX8_isAccepted 81 = .ok (.iconst 0, 1) := by decide +kernel
theorem dX8_isAccepted_82 : decode cX8_isAccepted 82 = .ok (.goto 39, 3) := by decide +kernel
theorem dX8_isAccepted_85 : decode cX8_isAccepted 85 = .ok (.iload 4, 2) := by decide +kernel
theorem dX8_isAccepted_87 : decode cX8_isAccepted 87 = .ok (.iconst 2, 1) := by decide +kernel
theorem dX8_isAccepted_88 : decode cX8_isAccepted 88 = .ok (.if_icmp .ne 21, 3) := by decide +kernel
theorem dX8_isAccepted_91 : decode cX8_isAccepted 91 = .ok (.iload 5, 2) := by decide +kernel
theorem dX8_isAccepted_93 : decode cX8_isAccepted 93 = .ok (.ifCond .eq 12, 3) := by decide +kernel
theorem dX8_isAccepted_96 : decode cX8_isAccepted 96 = .ok (.iload 6, 2) := by decide +kernel
theorem dX8_isAccepted_98 : decode cX8_isAccepted 98 = .ok (.ifCond .ne 7, 3) := by decide +kernel
theorem dX8_isAccepted_101 : decode cX8_isAccepted 101 = .ok (.iconst 1, 1) := by decide +kernel
theorem dX8_isAccepted_102 : decode cX8_isAccepted 102 = .ok (.goto 19, 3) := by decide +kernel
theorem dX8_isAccepted_105 : decode cX8_isAccepted 105 = .ok (.iconst 0, 1) := by decide +kernel
theorem dX8_isAccepted_106 : decode cX8_isAccepted 106 = .ok (.goto 15, 3) := by decide +kernel
theorem dX8_isAccepted_109 : decode cX8_isAccepted 109 = .ok (.iload 5, 2) := by decide +kernel
theorem dX8_isAccepted_111 : decode cX8_isAccepted 111 = .ok (.iload 6, 2) := by decide +kernel
theorem dX8_isAccepted_113 : decode cX8_isAccepted 113 = .ok (.if_icmp .eq 7, 3) := by decide +kernel
theorem dX8_isAccepted_116 : decode cX8_isAccepted 116 = .ok (.iconst 1, 1) := by decide +kernel
theorem dX8_isAccepted_117 : decode cX8_isAccepted 117 = .ok (.goto 4, 3) := by decide +kernel
theorem dX8_isAccepted_120 : decode cX8_isAccepted 120 = .ok (.iconst 0, 1) := by decide +kernel
theorem dX8_isAccepted_121 : decode cX8_isAccepted 121 = .ok (.ireturn, 1) := by decide +kernel
theorem dX8_areAlike_0 : decode cX8_areAlike 0 = .ok (.aload_n 0, 1) := by decide +kernel
theorem dX8_areAlike_1 : decode cX8_areAlike 1 = .ok (.getfield 90, 3) := by decide +kernel
theorem dX8_areAlike_4 : decode cX8_areAlike 4 = .ok (.iload_n 1, 1) := by decide +kernel
theorem dX8_areAlike_5 : decode cX8_areAlike 5 = .ok (.iaload, 1) := by decide +kernel
theorem dX8_areAlike_6 : decode cX8_areAlike 6 = .ok (.aload_n 0, 1) := by decide +kernel
theorem dX8_areAlike_7 : decode cX8_areAlike 7 = .ok (.getfield 90, 3) := by decide +kernel
theorem dX8_areAlike_10 : decode cX8_areAlike 10 = .ok (.iload_n 2, 1) := by decide +kernel
theorem dX8_areAlike_11 : decode cX8_areAlike 11 = .ok (.iaload, 1) := by decide +kernel
theorem dX8_areAlike_12 : decode cX8_areAlike 12 = .ok (.if_icmp .ne 7, 3) := by decide +kernel
theorem dX8_areAlike_15 : decode cX8_areAlike 15 = .ok (.iconst 1, 1) := by decide +kernel
theorem dX8_areAlike_16 : decode cX8_areAlike 16 = .ok (.goto 4, 3) := by decide +kernel
theorem dX8_areAlike_19 : decode cX8_areAlike 19 = .ok (.iconst 0, 1) := by decide +kernel
theorem dX8_areAlike_20 : decode cX8_areAlike 20 = .ok (.istore_n 3, 1) := by decide +kernel
theorem dX8_areAlike_21 : decode cX8_areAlike 21 = .ok (.iconst 0, 1) := by decide +kernel
theorem dX8_areAlike_22 : decode cX8_areAlike 22 = .ok (.istore 4, 2) := by decide +kernel
theorem dX8_areAlike_24 : decode cX8_areAlike 24 = .ok (.iload 4, 2) := by decide +kernel
theorem dX8_areAlike_26 : decode cX8_areAlike 26 = .ok (.bipush 8, 2) := by decide +kernel
theorem dX8_areAlike_28 : decode cX8_areAlike 28 = .ok (.if_icmp .ge 84, 3) := by decide +kernel
theorem dX8_areAlike_31 : decode cX8_areAlike 31 = .ok (.iload_n 3, 1) := by decide +kernel
theorem dX8_areAlike_32 : decode cX8_areAlike 32 = .ok (.ifCond .eq 80, 3) := by decide +kernel
theorem dX8_areAlike_35 : decode cX8_areAlike 35 = .ok (.aload_n 0, 1) := by decide +kernel
theorem dX8_areAlike_36 : decode cX8_areAlike 36 = .ok (.getfield 81, 3) := by decide +kernel
theorem dX8_areAlike_39 : decode cX8_areAlike 39 = .ok (.bipush 8, 2) := by decide +kernel
theorem dX8_areAlike_41 : decode cX8_areAlike 41 = .ok (.iload_n 1, 1) := by decide +kernel
theorem dX8_areAlike_42 : decode cX8_areAlike 42 = .ok (.imul, 1) := by decide +kernel
theorem dX8_areAlike_43 : decode cX8_areAlike 43 = .ok (.iload 4, 2) := by decide +kernel
theorem dX8_areAlike_45 : decode cX8_areAlike 45 = .ok (.iadd, 1) := by decide +kernel
theorem dX8_areAlike_46 : decode cX8_areAlike 46 = .ok (.iaload, 1) := by decide +kernel
theorem dX8_areAlike_47 : decode cX8_areAlike 47 = .ok (.istore 5, 2) := by decide +kernel
theorem dX8_areAlike_49 : decode cX8_areAlike 49 = .ok (.aload_n 0, 1) := by decide +kernel
theorem dX8_areAlike_50 : decode cX8_areAlike 50 = .ok (.getfield 81, 3) := by decide +kernel
theorem dX8_areAlike_53 : decode cX8_areAlike 53 = .ok (.bipush 8, 2) := by decide +kernel
theorem dX8_areAlike_55 : decode cX8_areAlike 55 = .ok (.iload_n 2, 1) := by decide +kernel
theorem dX8_areAlike_56 : decode cX8_areAlike 56 = .ok (.imul, 1) := by decide +kernel
theorem dX8_areAlike_57 : decode cX8_areAlike 57 = .ok (.iload 4, 2) := by decide +kernel
theorem dX8_areAlike_59 : decode cX8_areAlike 59 = .ok (.iadd, 1) := by decide +kernel
theorem dX8_areAlike_60 : decode cX8_areAlike 60 = .ok (.iaload, 1) := by decide +kernel
theorem dX8_areAlike_61 : decode cX8_areAlike 61 = .ok (.istore 6, 2) := by decide +kernel
theorem dX8_areAlike_63 : decode cX8_areAlike 63 = .ok (.iload 5, 2) := by decide +kernel
theorem dX8_areAlike_65 : decode cX8_areAlike 65 = .ok (.iconst (-1), 1) := by decide +kernel
theorem dX8_areAlike_66 : decode cX8_areAlike 66 = .ok (.if_icmp .ne 7, 3) := by decide +kernel
theorem dX8_areAlike_69 : decode cX8_areAlike 69 = .ok (.iconst (-1), 1) := by decide +kernel
theorem dX8_areAlike_70 : decode cX8_areAlike 70 = .ok (.goto 10, 3) := by decide +kernel
theorem dX8_areAlike_73 : decode cX8_areAlike 73 = .ok (.aload_n 0, 1) := by decide +kernel
theorem dX8_areAlike_74 : decode cX8_areAlike 74 = .ok (.getfield 90, 3) := by decide +kernel
theorem dX8_areAlike_77 : decode cX8_areAlike 77 = .ok (.iload 5, 2) := by decide +kernel
theorem dX8_areAlike_79 : decode cX8_areAlike 79 = .ok (.iaload, 1) := by decide +kernel
theorem dX8_areAlike_80 : decode cX8_areAlike 80 = .ok (.iload 6, 2) := by decide +kernel
theorem dX8_areAlike_82 : decode cX8_areAlike 82 = .ok (.iconst (-1), 1) := by decide +kernel
theorem dX8_areAlike_83 : decode cX8_areAlike 83 = .ok (.if_icmp .ne 7, 3) := by decide +kernel
theorem dX8_areAlike_86 : decode cX8_areAlike 86 = .ok (.iconst (-1), 1) := by decide +kernel
theorem dX8_areAlike_87 : decode cX8_areAlike 87 = .ok (.goto 10, 3) := by decide +kernel
theorem dX8_areAlike_90 : decode cX8_areAlike 90 = .ok (.aload_n 0, 1) := by decide +kernel
theorem dX8_areAlike_91 : decode cX8_areAlike 91 = .ok (.getfield 90, 3) := by decide +kernel
theorem dX8_areAlike_94 : decode cX8_areAlike 94 = .ok (.iload 6, 2) := by decide +kernel
theorem dX8_areAlike_96 : decode cX8_areAlike 96 = .ok (.iaload, 1) := by decide +kernel
theorem dX8_areAlike_97 : decode cX8_areAlike 97 = .ok (.if_icmp .ne 7, 3) := by decide +kernel
theorem dX8_areAlike_100 : decode cX8_areAlike 100 = .ok (.iconst 1, 1) := by decide +kernel
theorem dX8_areAlike_101 : decode cX8_areAlike 101 = .ok (.goto 4, 3) := by decide +kernel
theorem dX8_areAlike_104 : decode cX8_areAlike 104 = .ok (.iconst 0, 1) := by decide +kernel
theorem dX8_areAlike_105 : decode cX8_areAlike 105 = .ok (.istore_n 3, 1) := by decide +kernel
theorem dX8_areAlike_106 : decode cX8_areAlike 106 = .ok (.iinc 4 1, 3) := by decide +kernel
theorem dX8_areAlike_109 : decode cX8_areAlike 109 = .ok (.goto (-85), 3) := by decide +kernel
theorem dX8_areAlike_112 : decode cX8_areAlike 112 = .ok (.iload_n 3, 1) := by decide +kernel
theorem dX8_areAlike_113 : decode cX8_areAlike 113 = .ok (.ireturn, 1) := by decide +kernel
set_option maxRecDepth 20000 in
theorem ggX8_sorts_X8_areAlike : GoodIn wsX8_sorts wsX8_areAlike := goodIn_r _ [8, 3, 9, 10, 11, 12, 13, 14, 15, 16, 17, 18, 19, 20, 21, 22, 23, 24, 25, 26, 27, 28, 29, 30, 31, 32, 33, 34, 35, 36, 37, 38, 39, 40, 41, 42, 43, 44, 45, 46, 47, 48, 49, 50, 51, 52, 53, 54, 55, 56] rfl (by decide +kernel)
set_option maxRecDepth 20000 in
theorem gX8_sorts_X8_areAlike : GoodIn wsX8_sorts (wsV RX8 247 RX8 yX8_areAlike wsX8_areAlike) := goodIn_app (goodIn_of _ (by decide +kernel)) ggX8_sorts_X8_areAlike
theorem dX8_sorts_0 : decode cX8_sorts 0 = .ok (.iconst 0, 1) := by decide +kernel
theorem dX8_sorts_1 : decode cX8_sorts 1 = .ok (.istore_n 1, 1) := by decide +kernel
theorem dX8_sorts_2 : decode cX8_sorts 2 = .ok (.iconst 0, 1) := by decide +kernel
theorem dX8_sorts_3 : decode cX8_sorts 3 = .ok (.istore_n 2, 1) := by decide +kernel
theorem dX8_sorts_4 : decode cX8_sorts 4 = .ok (.iload_n 2, 1) := by decide +kernel
theorem dX8_sorts_5 : decode cX8_sorts 5 = .ok (.aload_n 0, 1) := by decide +kernel
theorem dX8_sorts_6 : decode cX8_sorts 6 = .ok (.getfield 233, 3) := by decide +kernel
theorem dX8_sorts_9 : decode cX8_sorts 9 = .ok (.if_icmp .ge 84, 3) := by decide +kernel
theorem dX8_sorts_12 : decode cX8_sorts 12 = .ok (.aload_n 0, 1) := by decide +kernel
theorem dX8_sorts_13 : decode cX8_sorts 13 = .ok (.getfield 93, 3) := by decide +kernel
theorem dX8_sorts_16 : decode cX8_sorts 16 = .ok (.iload_n 2, 1) := by decide +kernel
theorem dX8_sorts_17 : decode cX8_sorts 17 = .ok (.iconst (-1), 1) := by decide +kernel
theorem dX8_sorts_18 : decode cX8_sorts 18 = .ok (.iastore, 1) := by decide +kernel
theorem dX8_sorts_19 : decode cX8_sorts 19 = .ok (.iconst 0, 1) := by decide +kernel
theorem dX8_sorts_20 : decode cX8_sorts 20 = .ok (.istore_n 3, 1) := by decide +kernel
theorem dX8_sorts_21 : decode cX8_sorts 21 = .ok (.iload_n 3, 1) := by decide +kernel
theorem dX8_sorts_22 : decode cX8_sorts 22 = .ok (.iload_n 2, 1) := by decide +kernel
theorem dX8_sorts_23 : decode cX8_sorts 23 = .ok (.if_icmp .ge 44, 3) := by decide +kernel
theorem dX8_sorts_26 : decode cX8_sorts 26 = .ok (.aload_n 0, 1) := by decide +kernel
theorem dX8_sorts_27 : decode cX8_sorts 27 = .ok (.getfield 93, 3) := by decide +kernel
theorem dX8_sorts_30 : decode cX8_sorts 30 = .ok (.iload_n 2, 1) := by decide +kernel
theorem dX8_sorts_31 : decode cX8_sorts 31 = .ok (.iaload, 1) := by decide +kernel
theorem dX8_sorts_32 : decode cX8_sorts 32 = .ok (.iconst (-1), 1) := by decide +kernel
theorem dX8_sorts_33 : decode cX8_sorts 33 = .ok (.if_icmp .ne 34, 3) := by decide +kernel
theorem dX8_sorts_36 : decode cX8_sorts 36 = .ok (.aload_n 0, 1) := by decide +kernel
theorem dX8_sorts_37 : decode cX8_sorts 37 = .ok (.getfield 93, 3) := by decide +kernel
theorem dX8_sorts_40 : decode cX8_sorts 40 = .ok (.iload_n 2, 1) := by decide +kernel
theorem dX8_sorts_41 : decode cX8_sorts 41 = .ok (.aload_n 0, 1) := by decide +kernel
theorem dX8_sorts_42 : decode cX8_sorts 42 = .ok (.iload_n 3, 1) := by decide +kernel
theorem dX8_sorts_43 : decode cX8_sorts 43 = .ok (.iload_n 2, 1) := by decide +kernel
theorem dX8_sorts_44 : decode cX8_sorts 44 = .ok (.invokevirtual 247, 3) := by decide +kernel
theorem dX8_sorts_47 : decode cX8_sorts 47 = .ok (.ifCond .eq 12, 3) := by decide +kernel
theorem dX8_sorts_50 : decode cX8_sorts 50 = .ok (.aload_n 0, 1) := by decide +kernel
theorem dX8_sorts_51 : decode cX8_sorts 51 = .ok (.getfield 93, 3) := by decide +kernel
theorem dX8_sorts_54 : decode cX8_sorts 54 = .ok (.iload_n 3, 1) := by decide +kernel
theorem dX8_sorts_55 : decode cX8_sorts 55 = .ok (.iaload, 1) := by decide +kernel
theorem dX8_sorts_56 : decode cX8_sorts 56 = .ok (.goto 4, 3) := by decide +kernel
theorem dX8_sorts_59 : decode cX8_sorts 59 = .ok (.iconst (-1), 1) := by decide +kernel
theorem dX8_sorts_60 : decode cX8_sorts 60 = .ok (.iastore, 1) := by decide +kernel
theorem dX8_sorts_61 : decode cX8_sorts 61 = .ok (.iinc 3 1, 3) := by decide +kernel
theorem dX8_sorts_64 : decode cX8_sorts 64 = .ok (.goto (-43), 3) := by decide +kernel
theorem dX8_sorts_67 : decode cX8_sorts 67 = .ok (.aload_n 0, 1) := by decide +kernel
theorem dX8_sorts_68 : decode cX8_sorts 68 = .ok (.getfield 93, 3) := by decide +kernel
theorem dX8_sorts_71 : decode cX8_sorts 71 = .ok (.iload_n 2, 1) := by decide +kernel
theorem dX8_sorts_72 : decode cX8_sorts 72 = .ok (.iaload, 1) := by decide +kernel
theorem dX8_sorts_73 : decode cX8_sorts 73 = .ok (.iconst (-1), 1) := by decide +kernel
theorem dX8_sorts_74 : decode cX8_sorts 74 = .ok (.if_icmp .ne 13, 3) := by decide +kernel
theorem dX8_sorts_77 : decode cX8_sorts 77 = .ok (.aload_n 0, 1) := by decide +kernel
theorem dX8_sorts_78 : decode cX8_sorts 78 = .ok (.getfield 93, 3) := by decide +kernel
theorem dX8_sorts_81 : decode cX8_sorts 81 = .ok (.iload_n 2, 1) := by decide +kernel
theorem dX8_sorts_82 : decode cX8_sorts 82 = .ok (.iload_n 1, 1) := by decide +kernel
theorem dX8_sorts_83 : decode cX8_sorts 83 = .ok (.iastore, 1) := by decide +kernel
theorem dX8_sorts_84 : decode cX8_sorts 84 = .ok (.iinc 1 1, 3) := by decide +kernel
theorem dX8_sorts_87 : decode cX8_sorts 87 = .ok (.iinc 2 1, 3) := by decide +kernel
theorem dX8_sorts_90 : decode cX8_sorts 90 = .ok (.goto (-86), 3) := by decide +kernel
theorem dX8_sorts_93 : decode cX8_sorts 93 = .ok (.iconst 0, 1) := by decide +kernel
theorem dX8_sorts_94 : decode cX8_sorts 94 = .ok (.istore_n 2, 1) := by decide +kernel
theorem dX8_sorts_95 : decode cX8_sorts 95 = .ok (.iload_n 2, 1) := by decide +kernel
theorem dX8_sorts_96 : decode cX8_sorts 96 = .ok (.aload_n 0, 1) := by decide +kernel
theorem dX8_sorts_97 : decode cX8_sorts 97 = .ok (.getfield 233, 3) := by decide +kernel
theorem dX8_sorts_100 : decode cX8_sorts 100 = .ok (.if_icmp .ge 21, 3) := by decide +kernel
theorem dX8_sorts_103 : decode cX8_sorts 103 = .ok (.aload_n 0, 1) := by decide +kernel
theorem dX8_sorts_104 : decode cX8_sorts 104 = .ok (.getfield 90, 3) := by decide +kernel
theorem dX8_sorts_107 : decode cX8_sorts 107 = .ok (.iload_n 2, 1) := by decide +kernel
theorem dX8_sorts_108 : decode cX8_sorts 108 = .ok (.aload_n 0, 1) := by decide +kernel
theorem dX8_sorts_109 : decode cX8_sorts 109 = .ok (.getfield 93, 3) := by decide +kernel
theorem dX8_sorts_112 : decode cX8_sorts 112 = .ok (.iload_n 2, 1) := by decide +kernel
theorem dX8_sorts_113 : decode cX8_sorts 113 = .ok (.iaload, 1) := by decide +kernel
theorem dX8_sorts_114 : decode cX8_sorts 114 = .ok (.iastore, 1) := by decide +kernel
theorem dX8_sorts_115 : decode cX8_sorts 115 = .ok (.iinc 2 1, 3) := by decide +kernel
theorem dX8_sorts_118 : decode cX8_sorts 118 = .ok (.goto (-23), 3) := by decide +kernel
theorem dX8_sorts_121 : decode cX8_sorts 121 = .ok (.iload_n 1, 1) := by decide +kernel
theorem dX8_sorts_122 : decode cX8_sorts 122 = .ok (.ireturn, 1) := by decide +kernel
theorem dX8_prunes_0 : decode cX8_prunes 0 = .ok (.iconst 1, 1) := by decide +kernel
theorem dX8_prunes_1 : decode cX8_prunes 1 = .ok (.istore_n 1, 1) := by decide +kernel
theorem dX8_prunes_2 : decode cX8_prunes 2 = .ok (.iconst 0, 1) := by decide +kernel
theorem dX8_prunes_3 : decode cX8_prunes 3 = .ok (.istore_n 2, 1) := by decide +kernel
theorem dX8_prunes_4 : decode cX8_prunes 4 = .ok (.iload_n 2, 1) := by decide +kernel
theorem dX8_prunes_5 : decode cX8_prunes 5 = .ok (.aload_n 0, 1) := by decide +kernel
theorem dX8_prunes_6 : decode cX8_prunes 6 = .ok (.getfield 233, 3) := by decide +kernel
theorem dX8_prunes_9 : decode cX8_prunes 9 = .ok (.if_icmp .ge 21, 3) := by decide +kernel
theorem dX8_prunes_12 : decode cX8_prunes 12 = .ok (.aload_n 0, 1) := by decide +kernel
theorem dX8_prunes_13 : decode cX8_prunes 13 = .ok (.getfield 93, 3) := by decide +kernel
theorem dX8_prunes_16 : decode cX8_prunes 16 = .ok (.iload_n 2, 1) := by decide +kernel
theorem dX8_prunes_17 : decode cX8_prunes 17 = .ok (.aload_n 0, 1) := by decide +kernel
theorem dX8_prunes_18 : decode cX8_prunes 18 = .ok (.getfield 90, 3) := by decide +kernel
theorem dX8_prunes_21 : decode cX8_prunes 21 = .ok (.iload_n 2, 1) := by decide +kernel
theorem dX8_prunes_22 : decode cX8_prunes 22 = .ok (.iaload, 1) := by decide +kernel
theorem dX8_prunes_23 : decode cX8_prunes 23 = .ok (.iastore, 1) := by decide +kernel
theorem dX8_prunes_24 : decode cX8_prunes 24 = .ok (.iinc 2 1, 3) := by decide +kernel
theorem dX8_prunes_27 : decode cX8_prunes 27 = .ok (.goto (-23), 3) := by decide +kernel
theorem dX8_prunes_30 : decode cX8_prunes 30 = .ok (.iload_n 1, 1) := by decide +kernel
theorem dX8_prunes_31 : decode cX8_prunes 31 = .ok (.ifCond .eq 110, 3) := by decide +kernel
theorem dX8_prunes_34 : decode cX8_prunes 34 = .ok (.iconst 0, 1) := by decide +kernel
theorem dX8_prunes_35 : decode cX8_prunes 35 = .ok (.istore_n 1, 1) := by decide +kernel
theorem dX8_prunes_36 : decode cX8_prunes 36 = .ok (.iconst 0, 1) := by decide +kernel
theorem dX8_prunes_37 : decode cX8_prunes 37 = .ok (.istore_n 2, 1) := by decide +kernel
theorem dX8_prunes_38 : decode cX8_prunes 38 = .ok (.iload_n 2, 1) := by decide +kernel
theorem dX8_prunes_39 : decode cX8_prunes 39 = .ok (.bipush 8, 2) := by decide +kernel
theorem dX8_prunes_41 : decode cX8_prunes 41 = .ok (.aload_n 0, 1) := by decide +kernel
theorem dX8_prunes_42 : decode cX8_prunes 42 = .ok (.getfield 233, 3) := by decide +kernel
theorem dX8_prunes_45 : decode cX8_prunes 45 = .ok (.imul, 1) := by decide +kernel
theorem dX8_prunes_46 : decode cX8_prunes 46 = .ok (.if_icmp .ge 92, 3) := by decide +kernel
theorem dX8_prunes_49 : decode cX8_prunes 49 = .ok (.aload_n 0, 1) := by decide +kernel
theorem dX8_prunes_50 : decode cX8_prunes 50 = .ok (.getfield 81, 3) := by decide +kernel
theorem dX8_prunes_53 : decode cX8_prunes 53 = .ok (.iload_n 2, 1) := by decide +kernel
theorem dX8_prunes_54 : decode cX8_prunes 54 = .ok (.iaload, 1) := by decide +kernel
theorem dX8_prunes_55 : decode cX8_prunes 55 = .ok (.iconst (-1), 1) := by decide +kernel
theorem dX8_prunes_56 : decode cX8_prunes 56 = .ok (.if_icmp .eq 34, 3) := by decide +kernel
theorem dX8_prunes_59 : decode cX8_prunes 59 = .ok (.aload_n 0, 1) := by decide +kernel
theorem dX8_prunes_60 : decode cX8_prunes 60 = .ok (.getfield 93, 3) := by decide +kernel
theorem dX8_prunes_63 : decode cX8_prunes 63 = .ok (.aload_n 0, 1) := by decide +kernel
theorem dX8_prunes_64 : decode cX8_prunes 64 = .ok (.getfield 81, 3) := by decide +kernel
theorem dX8_prunes_67 : decode cX8_prunes 67 = .ok (.iload_n 2, 1) := by decide +kernel
theorem dX8_prunes_68 : decode cX8_prunes 68 = .ok (.iaload, 1) := by decide +kernel
theorem dX8_prunes_69 : decode cX8_prunes 69 = .ok (.iaload, 1) := by decide +kernel
theorem dX8_prunes_70 : decode cX8_prunes 70 = .ok (.iconst 1, 1) := by decide +kernel
theorem dX8_prunes_71 : decode cX8_prunes 71 = .ok (.if_icmp .ne 19, 3) := by decide +kernel
theorem dX8_prunes_74 : decode cX8_prunes 74 = .ok (.aload_n 0, 1) := by decide +kernel
theorem dX8_prunes_75 : decode cX8_prunes 75 = .ok (.getfield 93, 3) := by decide +kernel
theorem dX8_prunes_78 : decode cX8_prunes 78 = .ok (.iload_n 2, 1) := by decide +kernel
theorem dX8_prunes_79 : decode cX8_prunes 79 = .ok (.bipush 8, 2) := by decide +kernel
theorem dX8_prunes_81 : decode cX8_prunes 81 = .ok (.idiv, 1) := by decide +kernel
theorem dX8_prunes_82 : decode cX8_prunes 82 = .ok (.iaload, 1) := by decide +kernel
theorem dX8_prunes_83 : decode cX8_prunes 83 = .ok (.ifCond .ne 7, 3) := by decide +kernel
theorem dX8_prunes_86 : decode cX8_prunes 86 = .ok (.iconst 1, 1) := by decide +kernel
theorem dX8_prunes_87 : decode cX8_prunes 87 = .ok (.goto 4, 3) := by decide +kernel
theorem dX8_prunes_90 : decode cX8_prunes 90 = .ok (.iconst 0, 1) := by decide +kernel
theorem dX8_prunes_91 : decode cX8_prunes 91 = .ok (.istore_n 3, 1) := by decide +kernel
theorem dX8_prunes_92 : decode cX8_prunes 92 = .ok (.aload_n 0, 1) := by decide +kernel
theorem dX8_prunes_93 : decode cX8_prunes 93 = .ok (.getfield 93, 3) := by decide +kernel
theorem dX8_prunes_96 : decode cX8_prunes 96 = .ok (.iload_n 2, 1) := by decide +kernel
theorem dX8_prunes_97 : decode cX8_prunes 97 = .ok (.bipush 8, 2) := by decide +kernel
theorem dX8_prunes_99 : decode cX8_prunes 99 = .ok (.idiv, 1) := by decide +kernel
theorem dX8_prunes_100 : decode cX8_prunes 100 = .ok (.iload_n 3, 1) := by decide +kernel
theorem dX8_prunes_101 : decode cX8_prunes 101 = .ok (.ifCond .eq 7, 3) := by decide +kernel
theorem dX8_prunes_104 : decode cX8_prunes 104 = .ok (.iconst 1, 1) := by decide +kernel
theorem dX8_prunes_105 : decode cX8_prunes 105 = .ok (.goto 12, 3) := by decide +kernel
theorem dX8_prunes_108 : decode cX8_prunes 108 = .ok (.aload_n 0, 1) := by decide +kernel
theorem dX8_prunes_109 : decode cX8_prunes 109 = .ok (.getfield 93, 3) := by decide +kernel
theorem dX8_prunes_112 : decode cX8_prunes 112 = .ok (.iload_n 2, 1) := by decide +kernel
theorem dX8_prunes_113 : decode cX8_prunes 113 = .ok (.bipush 8, 2) := by decide +kernel
theorem dX8_prunes_115 : decode cX8_prunes 115 = .ok (.idiv, 1) := by decide +kernel
theorem dX8_prunes_116 : decode cX8_prunes 116 = .ok (.iaload, 1) := by decide +kernel
theorem dX8_prunes_117 : decode cX8_prunes 117 = .ok (.iastore, 1) := by decide +kernel
theorem dX8_prunes_118 : decode cX8_prunes 118 = .ok (.iload_n 1, 1) := by decide +kernel
theorem dX8_prunes_119 : decode cX8_prunes 119 = .ok (.ifCond .ne 7, 3) := by decide +kernel
theorem dX8_prunes_122 : decode cX8_prunes 122 = .ok (.iload_n 3, 1) := by decide +kernel
theorem dX8_prunes_123 : decode cX8_prunes 123 = .ok (.ifCond .eq 7, 3) := by decide +kernel
theorem dX8_prunes_126 : decode cX8_prunes 126 = .ok (.iconst 1, 1) := by decide +kernel
theorem dX8_prunes_127 : decode cX8_prunes 127 = .ok (.goto 4, 3) := by decide +kernel
theorem dX8_prunes_130 : decode cX8_prunes 130 = .ok (.iconst 0, 1) := by decide +kernel
theorem dX8_prunes_131 : decode cX8_prunes 131 = .ok (.istore_n 1, 1) := by decide +kernel
theorem dX8_prunes_132 : decode cX8_prunes 132 = .ok (.iinc 2 1, 3) := by decide +kernel
theorem dX8_prunes_135 : decode cX8_prunes 135 = .ok (.goto (-97), 3) := by decide +kernel
theorem dX8_prunes_138 : decode cX8_prunes 138 = .ok (.goto (-108), 3) := by decide +kernel
theorem dX8_prunes_141 : decode cX8_prunes 141 = .ok (.iconst 0, 1) := by decide +kernel
theorem dX8_prunes_142 : decode cX8_prunes 142 = .ok (.istore_n 2, 1) := by decide +kernel
theorem dX8_prunes_143 : decode cX8_prunes 143 = .ok (.iload_n 2, 1) := by decide +kernel
theorem dX8_prunes_144 : decode cX8_prunes 144 = .ok (.bipush 8, 2) := by decide +kernel
theorem dX8_prunes_146 : decode cX8_prunes 146 = .ok (.aload_n 0, 1) := by decide +kernel
theorem dX8_prunes_147 : decode cX8_prunes 147 = .ok (.getfield 233, 3) := by decide +kernel
theorem dX8_prunes_150 : decode cX8_prunes 150 = .ok (.imul, 1) := by decide +kernel
theorem dX8_prunes_151 : decode cX8_prunes 151 = .ok (.if_icmp .ge 50, 3) := by decide +kernel
theorem dX8_prunes_154 : decode cX8_prunes 154 = .ok (.aload_n 0, 1) := by decide +kernel
theorem dX8_prunes_155 : decode cX8_prunes 155 = .ok (.getfield 81, 3) := by decide +kernel
theorem dX8_prunes_158 : decode cX8_prunes 158 = .ok (.iload_n 2, 1) := by decide +kernel
theorem dX8_prunes_159 : decode cX8_prunes 159 = .ok (.aload_n 0, 1) := by decide +kernel
theorem dX8_prunes_160 : decode cX8_prunes 160 = .ok (.getfield 81, 3) := by decide +kernel
theorem dX8_prunes_163 : decode cX8_prunes 163 = .ok (.iload_n 2, 1) := by decide +kernel
theorem dX8_prunes_164 : decode cX8_prunes 164 = .ok (.iaload, 1) := by decide +kernel
theorem dX8_prunes_165 : decode cX8_prunes 165 = .ok (.iconst (-1), 1) := by decide +kernel
theorem dX8_prunes_166 : decode cX8_prunes 166 = .ok (.if_icmp .eq 27, 3) := by decide +kernel
theorem dX8_prunes_169 : decode cX8_prunes 169 = .ok (.aload_n 0, 1) := by decide +kernel
theorem dX8_prunes_170 : decode cX8_prunes 170 = .ok (.getfield 93, 3) := by decide +kernel
theorem dX8_prunes_173 : decode cX8_prunes 173 = .ok (.aload_n 0, 1) := by decide +kernel
theorem dX8_prunes_174 : decode cX8_prunes 174 = .ok (.getfield 81, 3) := by decide +kernel
theorem dX8_prunes_177 : decode cX8_prunes 177 = .ok (.iload_n 2, 1) := by decide +kernel
theorem dX8_prunes_178 : decode cX8_prunes 178 = .ok (.iaload, 1) := by decide +kernel
theorem dX8_prunes_179 : decode cX8_prunes 179 = .ok (.iaload, 1) := by decide +kernel
theorem dX8_prunes_180 : decode cX8_prunes 180 = .ok (.iconst 1, 1) := by decide +kernel
theorem dX8_prunes_181 : decode cX8_prunes 181 = .ok (.if_icmp .ne 12, 3) := by decide +kernel
theorem dX8_prunes_184 : decode cX8_prunes 184 = .ok (.aload_n 0, 1) := by decide +kernel
theorem dX8_prunes_185 : decode cX8_prunes 185 = .ok (.getfield 81, 3) := by decide +kernel
theorem dX8_prunes_188 : decode cX8_prunes 188 = .ok (.iload_n 2, 1) := by decide +kernel
theorem dX8_prunes_189 : decode cX8_prunes 189 = .ok (.iaload, 1) := by decide +kernel
theorem dX8_prunes_190 : decode cX8_prunes 190 = .ok (.goto 4, 3) := by decide +kernel
theorem dX8_prunes_193 : decode cX8_prunes 193 = .ok (.iconst (-1), 1) := by decide +kernel
theorem dX8_prunes_194 : decode cX8_prunes 194 = .ok (.iastore, 1) := by decide +kernel
theorem dX8_prunes_195 : decode cX8_prunes 195 = .ok (.iinc 2 1, 3) := by decide +kernel
theorem dX8_prunes_198 : decode cX8_prunes 198 = .ok (.goto (-55), 3) := by decide +kernel
theorem dX8_prunes_201 : decode cX8_prunes 201 = .ok (.return_, 1) := by decide +kernel
set_option maxRecDepth 20000 in
theorem ggX8_makesLeast_X8_looks : GoodIn wsX8_makesLeast wsX8_looks := goodIn_r _ [9, 1, 10, 11, 4, 12, 13, 14, 8, 15, 16, 17, 18, 19, 20, 21, 22, 23, 24, 25, 26, 27, 28, 29, 30, 31, 32, 96, 97, 98, 99, 100, 101, 102, 103, 104, 105, 106, 107, 108, 109, 110, 111, 112, 113, 114, 115, 116, 117, 118, 119, 120, 121, 122, 123, 124, 125, 126, 127, 128, 129, 130, 131, 132, 133, 134, 135, 136, 137, 138, 139, 140, 141, 142] rfl (by decide +kernel)
set_option maxRecDepth 20000 in
theorem gX8_makesLeast_X8_looks : GoodIn wsX8_makesLeast (wsV RX8 250 RX8 yX8_looks wsX8_looks) := goodIn_app (goodIn_of _ (by decide +kernel)) ggX8_makesLeast_X8_looks
set_option maxRecDepth 20000 in
theorem ggX8_makesLeast_X8_isAccepted : GoodIn wsX8_makesLeast wsX8_isAccepted := goodIn_r _ [36, 10, 37, 11, 96, 97, 98, 99, 100, 101, 102, 103, 104, 105, 106, 107, 108, 109, 110, 111, 112, 113, 114, 115, 116, 117, 118, 119, 120, 121, 122, 123, 124, 125, 126, 127, 128, 129, 130, 131, 132, 133, 134, 135, 136, 137, 138, 139, 140, 141, 142] rfl (by decide +kernel)
set_option maxRecDepth 20000 in
theorem gX8_makesLeast_X8_isAccepted : GoodIn wsX8_makesLeast (wsV RX8 253 RX8 yX8_isAccepted wsX8_isAccepted) := goodIn_app (goodIn_of _ (by decide +kernel)) ggX8_makesLeast_X8_isAccepted
set_option maxRecDepth 20000 in
theorem ggX8_makesLeast_X8_prunes : GoodIn wsX8_makesLeast wsX8_prunes := goodIn_r _ [41, 1, 42, 2, 4, 96, 97, 98, 99, 100, 101, 102, 103, 104, 105, 106, 107, 108, 109, 110, 111, 112, 113, 114, 115, 116, 117, 118, 119, 120, 121, 122, 123, 124, 125, 126, 127, 128, 129, 130, 131, 132, 133, 134, 135, 136, 137, 138, 139, 140, 141, 142] rfl (by decide +kernel)
set_option maxRecDepth 20000 in
theorem gX8_makesLeast_X8_prunes : GoodIn wsX8_makesLeast (wsV RX8 257 RX8 yX8_prunes wsX8_prunes) := goodIn_app (goodIn_of _ (by decide +kernel)) ggX8_makesLeast_X8_prunes
set_option maxRecDepth 20000 in
theorem ggX8_makesLeast_X8_sorts : GoodIn wsX8_makesLeast wsX8_sorts := goodIn_r _ [46, 1, 42, 2, 47, 48, 49, 8, 50, 4, 96, 97, 98, 99, 100, 101, 102, 103, 104, 105, 106, 107, 108, 109, 110, 111, 112, 113, 114, 115, 116, 117, 118, 119, 120, 121, 122, 123, 124, 125, 126, 127, 128, 129, 130, 131, 132, 133, 134, 135, 136, 137, 138, 139, 140, 141, 142] rfl (by decide +kernel)
set_option maxRecDepth 20000 in
theorem gX8_makesLeast_X8_sorts : GoodIn wsX8_makesLeast (wsV RX8 260 RX8 yX8_sorts wsX8_sorts) := goodIn_app (goodIn_of _ (by decide +kernel)) ggX8_makesLeast_X8_sorts
set_option maxRecDepth 20000 in
theorem ggX8_makesLeast_X8_begins : GoodIn wsX8_makesLeast wsX8_begins := goodIn_r _ [54, 55, 3, 96, 97, 98, 99, 100, 101, 102, 103, 104, 105, 106, 107, 108, 109, 110, 111, 112, 113, 114, 115, 116, 117, 118, 119, 120, 121, 122, 123, 124, 125, 126, 127, 128, 129, 130, 131, 132, 133, 134, 135, 136, 137, 138, 139, 140, 141, 142] rfl (by decide +kernel)
set_option maxRecDepth 20000 in
theorem gX8_makesLeast_X8_begins : GoodIn wsX8_makesLeast (wsV RX8 188 RX8 yX8_begins wsX8_begins) := goodIn_app (goodIn_of _ (by decide +kernel)) ggX8_makesLeast_X8_begins
set_option maxRecDepth 20000 in
theorem ggX8_makesLeast_X8_adds : GoodIn wsX8_makesLeast wsX8_adds := goodIn_r _ [59, 60, 55, 61, 96, 97, 98, 99, 100, 101, 102, 103, 104, 105, 106, 107, 108, 109, 110, 111, 112, 113, 114, 115, 116, 117, 118, 119, 120, 121, 122, 123, 124, 125, 126, 127, 128, 129, 130, 131, 132, 133, 134, 135, 136, 137, 138, 139, 140, 141, 142] rfl (by decide +kernel)
set_option maxRecDepth 20000 in
theorem gX8_makesLeast_X8_adds : GoodIn wsX8_makesLeast (wsV RX8 180 RX8 yX8_adds wsX8_adds) := goodIn_app (goodIn_of _ (by decide +kernel)) ggX8_makesLeast_X8_adds
set_option maxRecDepth 20000 in
theorem ggX8_makesLeast_X8_trims : GoodIn wsX8_makesLeast wsX8_trims := goodIn_r _ [65, 66, 67, 68, 69, 70, 60, 71, 72, 73, 74, 61, 75, 76, 3, 77, 78, 79, 8, 80, 81, 55, 82, 83, 84, 85, 86, 87, 88, 89, 90, 91, 92, 93, 94, 95, 96, 97, 98, 99, 100, 101, 102, 103, 104, 105, 106, 107, 108, 109, 110, 111, 112, 113, 114, 115, 116, 117, 118, 119, 120, 121, 122, 123, 124, 125, 126, 127, 128, 129, 130, 131, 132, 133, 134, 135, 136, 137, 138, 139, 140, 141, 142] rfl (by decide +kernel)
set_option maxRecDepth 20000 in
theorem gX8_makesLeast_X8_trims : GoodIn wsX8_makesLeast (wsV RX8 191 RX8 yX8_trims wsX8_trims) := goodIn_app (goodIn_of _ (by decide +kernel)) ggX8_makesLeast_X8_trims
theorem dX8_makesLeast_0 : decode cX8_makesLeast 0 = .ok (.aload_n 0, 1) := by decide +kernel
theorem dX8_makesLeast_1 : decode cX8_makesLeast 1 = .ok (.iload_n 1, 1) := by decide +kernel
theorem dX8_makesLeast_2 : decode cX8_makesLeast 2 = .ok (.iload_n 2, 1) := by decide +kernel
theorem dX8_makesLeast_3 : decode cX8_makesLeast 3 = .ok (.iload_n 3, 1) := by decide +kernel
theorem dX8_makesLeast_4 : decode cX8_makesLeast 4 = .ok (.invokevirtual 250, 3) := by decide +kernel
theorem dX8_makesLeast_7 : decode cX8_makesLeast 7 = .ok (.ifCond .ne 5, 3) := by decide +kernel
theorem dX8_makesLeast_10 : decode cX8_makesLeast 10 = .ok (.iconst 0, 1) := by decide +kernel
theorem dX8_makesLeast_11 : decode cX8_makesLeast 11 = .ok (.ireturn, 1) := by decide +kernel
theorem dX8_makesLeast_12 : decode cX8_makesLeast 12 = .ok (.iconst 0, 1) := by decide +kernel
theorem dX8_makesLeast_13 : decode cX8_makesLeast 13 = .ok (.istore 4, 2) := by decide +kernel
theorem dX8_makesLeast_15 : decode cX8_makesLeast 15 = .ok (.iload 4, 2) := by decide +kernel
theorem dX8_makesLeast_17 : decode cX8_makesLeast 17 = .ok (.aload_n 0, 1) := by decide +kernel
theorem dX8_makesLeast_18 : decode cX8_makesLeast 18 = .ok (.getfield 233, 3) := by decide +kernel
theorem dX8_makesLeast_21 : decode cX8_makesLeast 21 = .ok (.if_icmp .ge 33, 3) := by decide +kernel
theorem dX8_makesLeast_24 : decode cX8_makesLeast 24 = .ok (.aload_n 0, 1) := by decide +kernel
theorem dX8_makesLeast_25 : decode cX8_makesLeast 25 = .ok (.getfield 90, 3) := by decide +kernel
theorem dX8_makesLeast_28 : decode cX8_makesLeast 28 = .ok (.iload 4, 2) := by decide +kernel
theorem dX8_makesLeast_30 : decode cX8_makesLeast 30 = .ok (.aload_n 0, 1) := by decide +kernel
theorem dX8_makesLeast_31 : decode cX8_makesLeast 31 = .ok (.iload 4, 2) := by decide +kernel
theorem dX8_makesLeast_33 : decode cX8_makesLeast 33 = .ok (.iload_n 1, 1) := by decide +kernel
theorem dX8_makesLeast_34 : decode cX8_makesLeast 34 = .ok (.iload_n 2, 1) := by decide +kernel
theorem dX8_makesLeast_35 : decode cX8_makesLeast 35 = .ok (.iload_n 3, 1) := by decide +kernel
theorem dX8_makesLeast_36 : decode cX8_makesLeast 36 = .ok (.invokevirtual 253, 3) := by decide +kernel
theorem dX8_makesLeast_39 : decode cX8_makesLeast 39 = .ok (.ifCond .eq 7, 3) := by decide +kernel
theorem dX8_makesLeast_42 : decode cX8_makesLeast 42 = .ok (.iconst 1, 1) := by decide +kernel
theorem dX8_makesLeast_43 : decode cX8_makesLeast 43 = .ok (.goto 4, 3) := by decide +kernel
theorem dX8_makesLeast_46 : decode cX8_makesLeast 46 = .ok (.iconst 0, 1) := by decide +kernel
theorem dX8_makesLeast_47 : decode cX8_makesLeast 47 = .ok (.iastore, 1) := by decide +kernel
theorem dX8_makesLeast_48 : decode cX8_makesLeast 48 = .ok (.iinc 4 1, 3) := by decide +kernel
theorem dX8_makesLeast_51 : decode cX8_makesLeast 51 = .ok (.goto (-36), 3) := by decide +kernel
theorem dX8_makesLeast_54 : decode cX8_makesLeast 54 = .ok (.aload_n 0, 1) := by decide +kernel
theorem dX8_makesLeast_55 : decode cX8_makesLeast 55 = .ok (.invokevirtual 257, 3) := by decide +kernel
theorem dX8_makesLeast_58 : decode cX8_makesLeast 58 = .ok (.iconst 0, 1) := by decide +kernel
theorem dX8_makesLeast_59 : decode cX8_makesLeast 59 = .ok (.istore 4, 2) := by decide +kernel
theorem dX8_makesLeast_61 : decode cX8_makesLeast 61 = .ok (.aload_n 0, 1) := by decide +kernel
theorem dX8_makesLeast_62 : decode cX8_makesLeast 62 = .ok (.invokevirtual 260, 3) := by decide +kernel
theorem dX8_makesLeast_65 : decode cX8_makesLeast 65 = .ok (.istore 5, 2) := by decide +kernel
theorem dX8_makesLeast_67 : decode cX8_makesLeast 67 = .ok (.iload 5, 2) := by decide +kernel
theorem dX8_makesLeast_69 : decode cX8_makesLeast 69 = .ok (.iload 4, 2) := by decide +kernel
theorem dX8_makesLeast_71 : decode cX8_makesLeast 71 = .ok (.if_icmp .eq 16, 3) := by decide +kernel
theorem dX8_makesLeast_74 : decode cX8_makesLeast 74 = .ok (.iload 5, 2) := by decide +kernel
theorem dX8_makesLeast_76 : decode cX8_makesLeast 76 = .ok (.istore 4, 2) := by decide +kernel
theorem dX8_makesLeast_78 : decode cX8_makesLeast 78 = .ok (.aload_n 0, 1) := by decide +kernel
theorem dX8_makesLeast_79 : decode cX8_makesLeast 79 = .ok (.invokevirtual 260, 3) := by decide +kernel
theorem dX8_makesLeast_82 : decode cX8_makesLeast 82 = .ok (.istore 5, 2) := by decide +kernel
theorem dX8_makesLeast_84 : decode cX8_makesLeast 84 = .ok (.goto (-17), 3) := by decide +kernel
theorem dX8_makesLeast_87 : decode cX8_makesLeast 87 = .ok (.aload_n 0, 1) := by decide +kernel
theorem dX8_makesLeast_88 : decode cX8_makesLeast 88 = .ok (.invokevirtual 188, 3) := by decide +kernel
theorem dX8_makesLeast_91 : decode cX8_makesLeast 91 = .ok (.iconst 0, 1) := by decide +kernel
theorem dX8_makesLeast_92 : decode cX8_makesLeast 92 = .ok (.istore 6, 2) := by decide +kernel
theorem dX8_makesLeast_94 : decode cX8_makesLeast 94 = .ok (.iload 6, 2) := by decide +kernel
theorem dX8_makesLeast_96 : decode cX8_makesLeast 96 = .ok (.aload_n 0, 1) := by decide +kernel
theorem dX8_makesLeast_97 : decode cX8_makesLeast 97 = .ok (.getfield 233, 3) := by decide +kernel
theorem dX8_makesLeast_100 : decode cX8_makesLeast 100 = .ok (.if_icmp .ge 150, 3) := by decide +kernel
theorem dX8_makesLeast_103 : decode cX8_makesLeast 103 = .ok (.aload_n 0, 1) := by decide +kernel
theorem dX8_makesLeast_104 : decode cX8_makesLeast 104 = .ok (.getfield 44, 3) := by decide +kernel
theorem dX8_makesLeast_107 : decode cX8_makesLeast 107 = .ok (.aload_n 0, 1) := by decide +kernel
theorem dX8_makesLeast_108 : decode cX8_makesLeast 108 = .ok (.getfield 90, 3) := by decide +kernel
theorem dX8_makesLeast_111 : decode cX8_makesLeast 111 = .ok (.iload 6, 2) := by decide +kernel
theorem dX8_makesLeast_113 : decode cX8_makesLeast 113 = .ok (.iaload, 1) := by decide +kernel
