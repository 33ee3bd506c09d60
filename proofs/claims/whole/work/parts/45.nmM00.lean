theorem dX8_init_0 : decode cX8_init 0 = .ok (.aload_n 0, 1) := by decide +kernel
theorem dX8_init_1 : decode cX8_init 1 = .ok (.invokespecial 1, 3) := by decide +kernel
theorem dX8_init_4 : decode cX8_init 4 = .ok (.aload_n 0, 1) := by decide +kernel
theorem dX8_init_5 : decode cX8_init 5 = .ok (.bipush 8, 2) := by decide +kernel
theorem dX8_init_7 : decode cX8_init 7 = .ok (.newarray .int, 2) := by decide +kernel
theorem dX8_init_9 : decode cX8_init 9 = .ok (.putfield 7, 3) := by decide +kernel
theorem dX8_init_12 : decode cX8_init 12 = .ok (.aload_n 0, 1) := by decide +kernel
theorem dX8_init_13 : decode cX8_init 13 = .ok (.bipush 24, 2) := by decide +kernel
theorem dX8_init_15 : decode cX8_init 15 = .ok (.newarray .int, 2) := by decide +kernel
theorem dX8_init_17 : decode cX8_init 17 = .ok (.putfield 13, 3) := by decide +kernel
theorem dX8_init_20 : decode cX8_init 20 = .ok (.aload_n 0, 1) := by decide +kernel
theorem dX8_init_21 : decode cX8_init 21 = .ok (.bipush 24, 2) := by decide +kernel
theorem dX8_init_23 : decode cX8_init 23 = .ok (.newarray .int, 2) := by decide +kernel
theorem dX8_init_25 : decode cX8_init 25 = .ok (.putfield 16, 3) := by decide +kernel
theorem dX8_init_28 : decode cX8_init 28 = .ok (.aload_n 0, 1) := by decide +kernel
theorem dX8_init_29 : decode cX8_init 29 = .ok (.bipush 24, 2) := by decide +kernel
theorem dX8_init_31 : decode cX8_init 31 = .ok (.newarray .int, 2) := by decide +kernel
theorem dX8_init_33 : decode cX8_init 33 = .ok (.putfield 19, 3) := by decide +kernel
theorem dX8_init_36 : decode cX8_init 36 = .ok (.aload_n 0, 1) := by decide +kernel
theorem dX8_init_37 : decode cX8_init 37 = .ok (.sipush 3840, 3) := by decide +kernel
theorem dX8_init_40 : decode cX8_init 40 = .ok (.newarray .int, 2) := by decide +kernel
theorem dX8_init_42 : decode cX8_init 42 = .ok (.putfield 22, 3) := by decide +kernel
theorem dX8_init_45 : decode cX8_init 45 = .ok (.aload_n 0, 1) := by decide +kernel
theorem dX8_init_46 : decode cX8_init 46 = .ok (.sipush 3840, 3) := by decide +kernel
theorem dX8_init_49 : decode cX8_init 49 = .ok (.newarray .int, 2) := by decide +kernel
theorem dX8_init_51 : decode cX8_init 51 = .ok (.putfield 25, 3) := by decide +kernel
theorem dX8_init_54 : decode cX8_init 54 = .ok (.aload_n 0, 1) := by decide +kernel
theorem dX8_init_55 : decode cX8_init 55 = .ok (.sipush 3840, 3) := by decide +kernel
theorem dX8_init_58 : decode cX8_init 58 = .ok (.newarray .int, 2) := by decide +kernel
theorem dX8_init_60 : decode cX8_init 60 = .ok (.putfield 28, 3) := by decide +kernel
theorem dX8_init_63 : decode cX8_init 63 = .ok (.aload_n 0, 1) := by decide +kernel
theorem dX8_init_64 : decode cX8_init 64 = .ok (.sipush 3840, 3) := by decide +kernel
theorem dX8_init_67 : decode cX8_init 67 = .ok (.newarray .int, 2) := by decide +kernel
theorem dX8_init_69 : decode cX8_init 69 = .ok (.putfield 31, 3) := by decide +kernel
theorem dX8_init_72 : decode cX8_init 72 = .ok (.aload_n 0, 1) := by decide +kernel
theorem dX8_init_73 : decode cX8_init 73 = .ok (.sipush 3840, 3) := by decide +kernel
theorem dX8_init_76 : decode cX8_init 76 = .ok (.newarray .int, 2) := by decide +kernel
theorem dX8_init_78 : decode cX8_init 78 = .ok (.putfield 34, 3) := by decide +kernel
theorem dX8_init_81 : decode cX8_init 81 = .ok (.aload_n 0, 1) := by decide +kernel
theorem dX8_init_82 : decode cX8_init 82 = .ok (.ldc 37, 2) := by decide +kernel
theorem dX8_init_84 : decode cX8_init 84 = .ok (.newarray .int, 2) := by decide +kernel
theorem dX8_init_86 : decode cX8_init 86 = .ok (.putfield 38, 3) := by decide +kernel
theorem dX8_init_89 : decode cX8_init 89 = .ok (.aload_n 0, 1) := by decide +kernel
theorem dX8_init_90 : decode cX8_init 90 = .ok (.ldc 37, 2) := by decide +kernel
theorem dX8_init_92 : decode cX8_init 92 = .ok (.newarray .int, 2) := by decide +kernel
theorem dX8_init_94 : decode cX8_init 94 = .ok (.putfield 41, 3) := by decide +kernel
theorem dX8_init_97 : decode cX8_init 97 = .ok (.aload_n 0, 1) := by decide +kernel
theorem dX8_init_98 : decode cX8_init 98 = .ok (.sipush 1024, 3) := by decide +kernel
theorem dX8_init_101 : decode cX8_init 101 = .ok (.newarray .boolean, 2) := by decide +kernel
theorem dX8_init_103 : decode cX8_init 103 = .ok (.putfield 44, 3) := by decide +kernel
theorem dX8_init_106 : decode cX8_init 106 = .ok (.aload_n 0, 1) := by decide +kernel
theorem dX8_init_107 : decode cX8_init 107 = .ok (.sipush 1024, 3) := by decide +kernel
theorem dX8_init_110 : decode cX8_init 110 = .ok (.newarray .boolean, 2) := by decide +kernel
theorem dX8_init_112 : decode cX8_init 112 = .ok (.putfield 48, 3) := by decide +kernel
theorem dX8_init_115 : decode cX8_init 115 = .ok (.aload_n 0, 1) := by decide +kernel
theorem dX8_init_116 : decode cX8_init 116 = .ok (.sipush 1024, 3) := by decide +kernel
theorem dX8_init_119 : decode cX8_init 119 = .ok (.newarray .boolean, 2) := by decide +kernel
theorem dX8_init_121 : decode cX8_init 121 = .ok (.putfield 51, 3) := by decide +kernel
theorem dX8_init_124 : decode cX8_init 124 = .ok (.aload_n 0, 1) := by decide +kernel
theorem dX8_init_125 : decode cX8_init 125 = .ok (.sipush 1024, 3) := by decide +kernel
theorem dX8_init_128 : decode cX8_init 128 = .ok (.newarray .int, 2) := by decide +kernel
theorem dX8_init_130 : decode cX8_init 130 = .ok (.putfield 54, 3) := by decide +kernel
theorem dX8_init_133 : decode cX8_init 133 = .ok (.aload_n 0, 1) := by decide +kernel
theorem dX8_init_134 : decode cX8_init 134 = .ok (.bipush 33, 2) := by decide +kernel
theorem dX8_init_136 : decode cX8_init 136 = .ok (.newarray .int, 2) := by decide +kernel
theorem dX8_init_138 : decode cX8_init 138 = .ok (.putfield 57, 3) := by decide +kernel
theorem dX8_init_141 : decode cX8_init 141 = .ok (.aload_n 0, 1) := by decide +kernel
theorem dX8_init_142 : decode cX8_init 142 = .ok (.sipush 160, 3) := by decide +kernel
theorem dX8_init_145 : decode cX8_init 145 = .ok (.newarray .int, 2) := by decide +kernel
theorem dX8_init_147 : decode cX8_init 147 = .ok (.putfield 60, 3) := by decide +kernel
theorem dX8_init_150 : decode cX8_init 150 = .ok (.aload_n 0, 1) := by decide +kernel
theorem dX8_init_151 : decode cX8_init 151 = .ok (.sipush 160, 3) := by decide +kernel
theorem dX8_init_154 : decode cX8_init 154 = .ok (.newarray .int, 2) := by decide +kernel
theorem dX8_init_156 : decode cX8_init 156 = .ok (.putfield 63, 3) := by decide +kernel
theorem dX8_init_159 : decode cX8_init 159 = .ok (.aload_n 0, 1) := by decide +kernel
theorem dX8_init_160 : decode cX8_init 160 = .ok (.sipush 160, 3) := by decide +kernel
theorem dX8_init_163 : decode cX8_init 163 = .ok (.newarray .int, 2) := by decide +kernel
theorem dX8_init_165 : decode cX8_init 165 = .ok (.putfield 66, 3) := by decide +kernel
theorem dX8_init_168 : decode cX8_init 168 = .ok (.aload_n 0, 1) := by decide +kernel
theorem dX8_init_169 : decode cX8_init 169 = .ok (.sipush 160, 3) := by decide +kernel
theorem dX8_init_172 : decode cX8_init 172 = .ok (.newarray .int, 2) := by decide +kernel
theorem dX8_init_174 : decode cX8_init 174 = .ok (.putfield 69, 3) := by decide +kernel
theorem dX8_init_177 : decode cX8_init 177 = .ok (.aload_n 0, 1) := by decide +kernel
theorem dX8_init_178 : decode cX8_init 178 = .ok (.sipush 160, 3) := by decide +kernel
theorem dX8_init_181 : decode cX8_init 181 = .ok (.newarray .int, 2) := by decide +kernel
theorem dX8_init_183 : decode cX8_init 183 = .ok (.putfield 72, 3) := by decide +kernel
theorem dX8_init_186 : decode cX8_init 186 = .ok (.aload_n 0, 1) := by decide +kernel
theorem dX8_init_187 : decode cX8_init 187 = .ok (.sipush 200, 3) := by decide +kernel
theorem dX8_init_190 : decode cX8_init 190 = .ok (.newarray .int, 2) := by decide +kernel
theorem dX8_init_192 : decode cX8_init 192 = .ok (.putfield 75, 3) := by decide +kernel
theorem dX8_init_195 : decode cX8_init 195 = .ok (.aload_n 0, 1) := by decide +kernel
theorem dX8_init_196 : decode cX8_init 196 = .ok (.sipush 200, 3) := by decide +kernel
theorem dX8_init_199 : decode cX8_init 199 = .ok (.newarray .int, 2) := by decide +kernel
theorem dX8_init_201 : decode cX8_init 201 = .ok (.putfield 78, 3) := by decide +kernel
theorem dX8_init_204 : decode cX8_init 204 = .ok (.aload_n 0, 1) := by decide +kernel
theorem dX8_init_205 : decode cX8_init 205 = .ok (.sipush 1600, 3) := by decide +kernel
theorem dX8_init_208 : decode cX8_init 208 = .ok (.newarray .int, 2) := by decide +kernel
theorem dX8_init_210 : decode cX8_init 210 = .ok (.putfield 81, 3) := by decide +kernel
theorem dX8_init_213 : decode cX8_init 213 = .ok (.aload_n 0, 1) := by decide +kernel
theorem dX8_init_214 : decode cX8_init 214 = .ok (.sipush 200, 3) := by decide +kernel
theorem dX8_init_217 : decode cX8_init 217 = .ok (.newarray .int, 2) := by decide +kernel
theorem dX8_init_219 : decode cX8_init 219 = .ok (.putfield 84, 3) := by decide +kernel
theorem dX8_init_222 : decode cX8_init 222 = .ok (.aload_n 0, 1) := by decide +kernel
theorem dX8_init_223 : decode cX8_init 223 = .ok (.sipush 200, 3) := by decide +kernel
theorem dX8_init_226 : decode cX8_init 226 = .ok (.newarray .int, 2) := by decide +kernel
theorem dX8_init_228 : decode cX8_init 228 = .ok (.putfield 87, 3) := by decide +kernel
theorem dX8_init_231 : decode cX8_init 231 = .ok (.aload_n 0, 1) := by decide +kernel
theorem dX8_init_232 : decode cX8_init 232 = .ok (.sipush 200, 3) := by decide +kernel
theorem dX8_init_235 : decode cX8_init 235 = .ok (.newarray .int, 2) := by decide +kernel
theorem dX8_init_237 : decode cX8_init 237 = .ok (.putfield 90, 3) := by decide +kernel
theorem dX8_init_240 : decode cX8_init 240 = .ok (.aload_n 0, 1) := by decide +kernel
theorem dX8_init_241 : decode cX8_init 241 = .ok (.sipush 200, 3) := by decide +kernel
theorem dX8_init_244 : decode cX8_init 244 = .ok (.newarray .int, 2) := by decide +kernel
theorem dX8_init_246 : decode cX8_init 246 = .ok (.putfield 93, 3) := by decide +kernel
theorem dX8_init_249 : decode cX8_init 249 = .ok (.aload_n 0, 1) := by decide +kernel
theorem dX8_init_250 : decode cX8_init 250 = .ok (.sipush 288, 3) := by decide +kernel
theorem dX8_init_253 : decode cX8_init 253 = .ok (.newarray .int, 2) := by decide +kernel
theorem dX8_init_255 : decode cX8_init 255 = .ok (.putfield 96, 3) := by decide +kernel
theorem dX8_init_258 : decode cX8_init 258 = .ok (.aload_n 0, 1) := by decide +kernel
theorem dX8_init_259 : decode cX8_init 259 = .ok (.sipush 288, 3) := by decide +kernel
theorem dX8_init_262 : decode cX8_init 262 = .ok (.newarray .int, 2) := by decide +kernel
theorem dX8_init_264 : decode cX8_init 264 = .ok (.putfield 99, 3) := by decide +kernel
theorem dX8_init_267 : decode cX8_init 267 = .ok (.aload_n 0, 1) := by decide +kernel
theorem dX8_init_268 : decode cX8_init 268 = .ok (.sipush 288, 3) := by decide +kernel
theorem dX8_init_271 : decode cX8_init 271 = .ok (.newarray .int, 2) := by decide +kernel
theorem dX8_init_273 : decode cX8_init 273 = .ok (.putfield 102, 3) := by decide +kernel
theorem dX8_init_276 : decode cX8_init 276 = .ok (.aload_n 0, 1) := by decide +kernel
theorem dX8_init_277 : decode cX8_init 277 = .ok (.ldc 105, 2) := by decide +kernel
theorem dX8_init_279 : decode cX8_init 279 = .ok (.newarray .boolean, 2) := by decide +kernel
theorem dX8_init_281 : decode cX8_init 281 = .ok (.putfield 106, 3) := by decide +kernel
theorem dX8_init_284 : decode cX8_init 284 = .ok (.aload_n 0, 1) := by decide +kernel
theorem dX8_init_285 : decode cX8_init 285 = .ok (.sipush 300, 3) := by decide +kernel
theorem dX8_init_288 : decode cX8_init 288 = .ok (.newarray .int, 2) := by decide +kernel
theorem dX8_init_290 : decode cX8_init 290 = .ok (.putfield 109, 3) := by decide +kernel
theorem dX8_init_293 : decode cX8_init 293 = .ok (.aload_n 0, 1) := by decide +kernel
theorem dX8_init_294 : decode cX8_init 294 = .ok (.sipush 300, 3) := by decide +kernel
theorem dX8_init_297 : decode cX8_init 297 = .ok (.newarray .int, 2) := by decide +kernel
theorem dX8_init_299 : decode cX8_init 299 = .ok (.putfield 112, 3) := by decide +kernel
theorem dX8_init_302 : decode cX8_init 302 = .ok (.aload_n 0, 1) := by decide +kernel
theorem dX8_init_303 : decode cX8_init 303 = .ok (.sipush 240, 3) := by decide +kernel
theorem dX8_init_306 : decode cX8_init 306 = .ok (.newarray .int, 2) := by decide +kernel
theorem dX8_init_308 : decode cX8_init 308 = .ok (.putfield 115, 3) := by decide +kernel
theorem dX8_init_311 : decode cX8_init 311 = .ok (.aload_n 0, 1) := by decide +kernel
theorem dX8_init_312 : decode cX8_init 312 = .ok (.bipush 30, 2) := by decide +kernel
theorem dX8_init_314 : decode cX8_init 314 = .ok (.newarray .int, 2) := by decide +kernel
theorem dX8_init_316 : decode cX8_init 316 = .ok (.putfield 118, 3) := by decide +kernel
theorem dX8_init_319 : decode cX8_init 319 = .ok (.aload_n 0, 1) := by decide +kernel
theorem dX8_init_320 : decode cX8_init 320 = .ok (.bipush 30, 2) := by decide +kernel
theorem dX8_init_322 : decode cX8_init 322 = .ok (.newarray .int, 2) := by decide +kernel
theorem dX8_init_324 : decode cX8_init 324 = .ok (.putfield 121, 3) := by decide +kernel
theorem dX8_init_327 : decode cX8_init 327 = .ok (.return_, 1) := by decide +kernel
theorem dX8_thrown_0 : decode cX8_thrown 0 = .ok (.aload_n 0, 1) := by decide +kernel
theorem dX8_thrown_1 : decode cX8_thrown 1 = .ok (.getfield 124, 3) := by decide +kernel
theorem dX8_thrown_4 : decode cX8_thrown 4 = .ok (.ireturn, 1) := by decide +kernel
theorem dX8_isFine_0 : decode cX8_isFine 0 = .ok (.aload_n 0, 1) := by decide +kernel
theorem dX8_isFine_1 : decode cX8_isFine 1 = .ok (.iload_n 1, 1) := by decide +kernel
theorem dX8_isFine_2 : decode cX8_isFine 2 = .ok (.putfield 124, 3) := by decide +kernel
theorem dX8_isFine_5 : decode cX8_isFine 5 = .ok (.iload_n 1, 1) := by decide +kernel
theorem dX8_isFine_6 : decode cX8_isFine 6 = .ok (.ifCond .ne 7, 3) := by decide +kernel
theorem dX8_isFine_9 : decode cX8_isFine 9 = .ok (.iconst 1, 1) := by decide +kernel
theorem dX8_isFine_10 : decode cX8_isFine 10 = .ok (.goto 4, 3) := by decide +kernel
theorem dX8_isFine_13 : decode cX8_isFine 13 = .ok (.iconst 0, 1) := by decide +kernel
theorem dX8_isFine_14 : decode cX8_isFine 14 = .ok (.ireturn, 1) := by decide +kernel
theorem dX8_isIn_0 : decode cX8_isIn 0 = .ok (.iload_n 0, 1) := by decide +kernel
theorem dX8_isIn_1 : decode cX8_isIn 1 = .ok (.iload_n 1, 1) := by decide +kernel
theorem dX8_isIn_2 : decode cX8_isIn 2 = .ok (.if_icmp .lt 12, 3) := by decide +kernel
theorem dX8_isIn_5 : decode cX8_isIn 5 = .ok (.iload_n 0, 1) := by decide +kernel
theorem dX8_isIn_6 : decode cX8_isIn 6 = .ok (.iload_n 2, 1) := by decide +kernel
theorem dX8_isIn_7 : decode cX8_isIn 7 = .ok (.if_icmp .gt 7, 3) := by decide +kernel
theorem dX8_isIn_10 : decode cX8_isIn 10 = .ok (.iconst 1, 1) := by decide +kernel
theorem dX8_isIn_11 : decode cX8_isIn 11 = .ok (.goto 4, 3) := by decide +kernel
theorem dX8_isIn_14 : decode cX8_isIn 14 = .ok (.iconst 0, 1) := by decide +kernel
theorem dX8_isIn_15 : decode cX8_isIn 15 = .ok (.ireturn, 1) := by decide +kernel
set_option maxRecDepth 20000 in
theorem ggX8_isMachine_X8_isIn : GoodIn wsX8_isMachine wsX8_isIn := goodIn_g _ [(5, 1)] (by exact rfl) (by decide +kernel)
set_option maxRecDepth 20000 in
theorem gX8_isMachine_X8_isIn : GoodIn wsX8_isMachine (va_wsS RX8 131 yX8_isIn wsX8_isIn) := goodIn_app (goodIn_of _ (by decide +kernel)) ggX8_isMachine_X8_isIn
theorem dX8_isMachine_0 : decode cX8_isMachine 0 = .ok (.iload_n 1, 1) := by decide +kernel
theorem dX8_isMachine_1 : decode cX8_isMachine 1 = .ok (.iconst 0, 1) := by decide +kernel
theorem dX8_isMachine_2 : decode cX8_isMachine 2 = .ok (.aload_n 0, 1) := by decide +kernel
theorem dX8_isMachine_3 : decode cX8_isMachine 3 = .ok (.getfield 128, 3) := by decide +kernel
theorem dX8_isMachine_6 : decode cX8_isMachine 6 = .ok (.iconst 1, 1) := by decide +kernel
theorem dX8_isMachine_7 : decode cX8_isMachine 7 = .ok (.isub, 1) := by decide +kernel
theorem dX8_isMachine_8 : decode cX8_isMachine 8 = .ok (.invokestatic 131, 3) := by decide +kernel
theorem dX8_isMachine_11 : decode cX8_isMachine 11 = .ok (.ireturn, 1) := by decide +kernel
set_option maxRecDepth 20000 in
theorem ggX8_type_X8_isIn : GoodIn wsX8_type wsX8_isIn := goodIn_g _ [(6, 1)] (by exact rfl) (by decide +kernel)
set_option maxRecDepth 20000 in
theorem gX8_type_X8_isIn : GoodIn wsX8_type (va_wsS RX8 131 yX8_isIn wsX8_isIn) := goodIn_app (goodIn_of _ (by decide +kernel)) ggX8_type_X8_isIn
set_option maxRecDepth 20000 in
theorem ggX8_type_X8_isFine : GoodIn wsX8_type wsX8_isFine := goodIn_g _ [(10, 49)] (by exact rfl) (by decide +kernel)
set_option maxRecDepth 20000 in
theorem gX8_type_X8_isFine : GoodIn wsX8_type (wsV RX8 138 RX8 yX8_isFine wsX8_isFine) := goodIn_app (goodIn_of _ (by decide +kernel)) ggX8_type_X8_isFine
theorem dX8_type_0 : decode cX8_type 0 = .ok (.aload_n 0, 1) := by decide +kernel
theorem dX8_type_1 : decode cX8_type 1 = .ok (.iload_n 1, 1) := by decide +kernel
theorem dX8_type_2 : decode cX8_type 2 = .ok (.iconst 0, 1) := by decide +kernel
theorem dX8_type_3 : decode cX8_type 3 = .ok (.bipush 7, 2) := by decide +kernel
theorem dX8_type_5 : decode cX8_type 5 = .ok (.invokestatic 131, 3) := by decide +kernel
theorem dX8_type_8 : decode cX8_type 8 = .ok (.ifCond .ne 7, 3) := by decide +kernel
theorem dX8_type_11 : decode cX8_type 11 = .ok (.iconst 1, 1) := by decide +kernel
theorem dX8_type_12 : decode cX8_type 12 = .ok (.goto 17, 3) := by decide +kernel
theorem dX8_type_15 : decode cX8_type 15 = .ok (.aload_n 0, 1) := by decide +kernel
theorem dX8_type_16 : decode cX8_type 16 = .ok (.getfield 135, 3) := by decide +kernel
theorem dX8_type_19 : decode cX8_type 19 = .ok (.bipush 8, 2) := by decide +kernel
theorem dX8_type_21 : decode cX8_type 21 = .ok (.if_icmp .ne 7, 3) := by decide +kernel
theorem dX8_type_24 : decode cX8_type 24 = .ok (.iconst 2, 1) := by decide +kernel
theorem dX8_type_25 : decode cX8_type 25 = .ok (.goto 4, 3) := by decide +kernel
theorem dX8_type_28 : decode cX8_type 28 = .ok (.iconst 0, 1) := by decide +kernel
theorem dX8_type_29 : decode cX8_type 29 = .ok (.invokevirtual 138, 3) := by decide +kernel
theorem dX8_type_32 : decode cX8_type 32 = .ok (.ifCond .ne 5, 3) := by decide +kernel
theorem dX8_type_35 : decode cX8_type 35 = .ok (.iconst 0, 1) := by decide +kernel
theorem dX8_type_36 : decode cX8_type 36 = .ok (.ireturn, 1) := by decide +kernel
theorem dX8_type_37 : decode cX8_type 37 = .ok (.aload_n 0, 1) := by decide +kernel
theorem dX8_type_38 : decode cX8_type 38 = .ok (.getfield 7, 3) := by decide +kernel
theorem dX8_type_41 : decode cX8_type 41 = .ok (.aload_n 0, 1) := by decide +kernel
theorem dX8_type_42 : decode cX8_type 42 = .ok (.getfield 135, 3) := by decide +kernel
theorem dX8_type_45 : decode cX8_type 45 = .ok (.iload_n 1, 1) := by decide +kernel
theorem dX8_type_46 : decode cX8_type 46 = .ok (.iastore, 1) := by decide +kernel
theorem dX8_type_47 : decode cX8_type 47 = .ok (.aload_n 0, 1) := by decide +kernel
theorem dX8_type_48 : decode cX8_type 48 = .ok (.dup, 1) := by decide +kernel
theorem dX8_type_49 : decode cX8_type 49 = .ok (.getfield 135, 3) := by decide +kernel
theorem dX8_type_52 : decode cX8_type 52 = .ok (.iconst 1, 1) := by decide +kernel
theorem dX8_type_53 : decode cX8_type 53 = .ok (.iadd, 1) := by decide +kernel
theorem dX8_type_54 : decode cX8_type 54 = .ok (.putfield 135, 3) := by decide +kernel
theorem dX8_type_57 : decode cX8_type 57 = .ok (.aload_n 0, 1) := by decide +kernel
theorem dX8_type_58 : decode cX8_type 58 = .ok (.getfield 135, 3) := by decide +kernel
theorem dX8_type_61 : decode cX8_type 61 = .ok (.ireturn, 1) := by decide +kernel
theorem dX8_clear_0 : decode cX8_clear 0 = .ok (.aload_n 0, 1) := by decide +kernel
theorem dX8_clear_1 : decode cX8_clear 1 = .ok (.iconst 0, 1) := by decide +kernel
theorem dX8_clear_2 : decode cX8_clear 2 = .ok (.putfield 124, 3) := by decide +kernel
theorem dX8_clear_5 : decode cX8_clear 5 = .ok (.aload_n 0, 1) := by decide +kernel
theorem dX8_clear_6 : decode cX8_clear 6 = .ok (.getfield 135, 3) := by decide +kernel
theorem dX8_clear_9 : decode cX8_clear 9 = .ok (.istore_n 1, 1) := by decide +kernel
theorem dX8_clear_10 : decode cX8_clear 10 = .ok (.aload_n 0, 1) := by decide +kernel
theorem dX8_clear_11 : decode cX8_clear 11 = .ok (.iconst 0, 1) := by decide +kernel
theorem dX8_clear_12 : decode cX8_clear 12 = .ok (.putfield 135, 3) := by decide +kernel
theorem dX8_clear_15 : decode cX8_clear 15 = .ok (.iload_n 1, 1) := by decide +kernel
theorem dX8_clear_16 : decode cX8_clear 16 = .ok (.ireturn, 1) := by decide +kernel
theorem dX8_begins_0 : decode cX8_begins 0 = .ok (.aload_n 0, 1) := by decide +kernel
theorem dX8_begins_1 : decode cX8_begins 1 = .ok (.iconst 0, 1) := by decide +kernel
theorem dX8_begins_2 : decode cX8_begins 2 = .ok (.putfield 142, 3) := by decide +kernel
theorem dX8_begins_5 : decode cX8_begins 5 = .ok (.iconst 0, 1) := by decide +kernel
theorem dX8_begins_6 : decode cX8_begins 6 = .ok (.istore_n 1, 1) := by decide +kernel
theorem dX8_begins_7 : decode cX8_begins 7 = .ok (.iload_n 1, 1) := by decide +kernel
theorem dX8_begins_8 : decode cX8_begins 8 = .ok (.sipush 1024, 3) := by decide +kernel
theorem dX8_begins_11 : decode cX8_begins 11 = .ok (.if_icmp .ge 16, 3) := by decide +kernel
theorem dX8_begins_14 : decode cX8_begins 14 = .ok (.aload_n 0, 1) := by decide +kernel
theorem dX8_begins_15 : decode cX8_begins 15 = .ok (.getfield 44, 3) := by decide +kernel
theorem dX8_begins_18 : decode cX8_begins 18 = .ok (.iload_n 1, 1) := by decide +kernel
theorem dX8_begins_19 : decode cX8_begins 19 = .ok (.iconst 0, 1) := by decide +kernel
theorem dX8_begins_20 : decode cX8_begins 20 = .ok (.bastore, 1) := by decide +kernel
theorem dX8_begins_21 : decode cX8_begins 21 = .ok (.iinc 1 1, 3) := by decide +kernel
theorem dX8_begins_24 : decode cX8_begins 24 = .ok (.goto (-17), 3) := by decide +kernel
theorem dX8_begins_27 : decode cX8_begins 27 = .ok (.return_, 1) := by decide +kernel
theorem dX8_adds_0 : decode cX8_adds 0 = .ok (.aload_n 0, 1) := by decide +kernel
theorem dX8_adds_1 : decode cX8_adds 1 = .ok (.getfield 38, 3) := by decide +kernel
theorem dX8_adds_4 : decode cX8_adds 4 = .ok (.aload_n 0, 1) := by decide +kernel
theorem dX8_adds_5 : decode cX8_adds 5 = .ok (.getfield 142, 3) := by decide +kernel
theorem dX8_adds_8 : decode cX8_adds 8 = .ok (.iload_n 1, 1) := by decide +kernel
theorem dX8_adds_9 : decode cX8_adds 9 = .ok (.bipush 18, 2) := by decide +kernel
theorem dX8_adds_11 : decode cX8_adds 11 = .ok (.ishl, 1) := by decide +kernel
theorem dX8_adds_12 : decode cX8_adds 12 = .ok (.iload_n 2, 1) := by decide +kernel
theorem dX8_adds_13 : decode cX8_adds 13 = .ok (.bipush 14, 2) := by decide +kernel
theorem dX8_adds_15 : decode cX8_adds 15 = .ok (.ishl, 1) := by decide +kernel
theorem dX8_adds_16 : decode cX8_adds 16 = .ok (.ior, 1) := by decide +kernel
theorem dX8_adds_17 : decode cX8_adds 17 = .ok (.iload_n 3, 1) := by decide +kernel
theorem dX8_adds_18 : decode cX8_adds 18 = .ok (.bipush 10, 2) := by decide +kernel
theorem dX8_adds_20 : decode cX8_adds 20 = .ok (.ishl, 1) := by decide +kernel
theorem dX8_adds_21 : decode cX8_adds 21 = .ok (.ior, 1) := by decide +kernel
theorem dX8_adds_22 : decode cX8_adds 22 = .ok (.iload 5, 2) := by decide +kernel
theorem dX8_adds_24 : decode cX8_adds 24 = .ok (.ior, 1) := by decide +kernel
theorem dX8_adds_25 : decode cX8_adds 25 = .ok (.iastore, 1) := by decide +kernel
theorem dX8_adds_26 : decode cX8_adds 26 = .ok (.aload_n 0, 1) := by decide +kernel
theorem dX8_adds_27 : decode cX8_adds 27 = .ok (.getfield 41, 3) := by decide +kernel
theorem dX8_adds_30 : decode cX8_adds 30 = .ok (.aload_n 0, 1) := by decide +kernel
theorem dX8_adds_31 : decode cX8_adds 31 = .ok (.getfield 142, 3) := by decide +kernel
theorem dX8_adds_34 : decode cX8_adds 34 = .ok (.iload 4, 2) := by decide +kernel
theorem dX8_adds_36 : decode cX8_adds 36 = .ok (.iastore, 1) := by decide +kernel
theorem dX8_adds_37 : decode cX8_adds 37 = .ok (.aload_n 0, 1) := by decide +kernel
theorem dX8_adds_38 : decode cX8_adds 38 = .ok (.dup, 1) := by decide +kernel
theorem dX8_adds_39 : decode cX8_adds 39 = .ok (.getfield 142, 3) := by decide +kernel
theorem dX8_adds_42 : decode cX8_adds 42 = .ok (.iconst 1, 1) := by decide +kernel
theorem dX8_adds_43 : decode cX8_adds 43 = .ok (.iadd, 1) := by decide +kernel
theorem dX8_adds_44 : decode cX8_adds 44 = .ok (.putfield 142, 3) := by decide +kernel
theorem dX8_adds_47 : decode cX8_adds 47 = .ok (.return_, 1) := by decide +kernel
theorem dX8_sourceOf_0 : decode cX8_sourceOf 0 = .ok (.iload_n 0, 1) := by decide +kernel
theorem dX8_sourceOf_1 : decode cX8_sourceOf 1 = .ok (.bipush 18, 2) := by decide +kernel
theorem dX8_sourceOf_3 : decode cX8_sourceOf 3 = .ok (.ishr, 1) := by decide +kernel
theorem dX8_sourceOf_4 : decode cX8_sourceOf 4 = .ok (.ireturn, 1) := by decide +kernel
theorem dX8_targetOf_0 : decode cX8_targetOf 0 = .ok (.iload_n 0, 1) := by decide +kernel
theorem dX8_targetOf_1 : decode cX8_targetOf 1 = .ok (.sipush 1023, 3) := by decide +kernel
theorem dX8_targetOf_4 : decode cX8_targetOf 4 = .ok (.iand, 1) := by decide +kernel
theorem dX8_targetOf_5 : decode cX8_targetOf 5 = .ok (.ireturn, 1) := by decide +kernel
set_option maxRecDepth 20000 in
theorem ggX8_reaches_X8_sourceOf : GoodIn wsX8_reaches wsX8_sourceOf := goodIn_g _ [(9, 1)] (by exact rfl) (by decide +kernel)
set_option maxRecDepth 20000 in
theorem gX8_reaches_X8_sourceOf : GoodIn wsX8_reaches (va_wsS RX8 145 yX8_sourceOf wsX8_sourceOf) := goodIn_app (goodIn_of _ (by decide +kernel)) ggX8_reaches_X8_sourceOf
set_option maxRecDepth 20000 in
theorem ggX8_reaches_X8_targetOf : GoodIn wsX8_reaches wsX8_targetOf := goodIn_g _ [(12, 1)] (by exact rfl) (by decide +kernel)
set_option maxRecDepth 20000 in
theorem gX8_reaches_X8_targetOf : GoodIn wsX8_reaches (va_wsS RX8 149 yX8_targetOf wsX8_targetOf) := goodIn_app (goodIn_of _ (by decide +kernel)) ggX8_reaches_X8_targetOf
theorem dX8_reaches_0 : decode cX8_reaches 0 = .ok (.iconst 0, 1) := by decide +kernel
theorem dX8_reaches_1 : decode cX8_reaches 1 = .ok (.istore_n 2, 1) := by decide +kernel
theorem dX8_reaches_2 : decode cX8_reaches 2 = .ok (.iload_n 2, 1) := by decide +kernel
theorem dX8_reaches_3 : decode cX8_reaches 3 = .ok (.sipush 1024, 3) := by decide +kernel
theorem dX8_reaches_6 : decode cX8_reaches 6 = .ok (.if_icmp .ge 37, 3) := by decide +kernel
theorem dX8_reaches_9 : decode cX8_reaches 9 = .ok (.aload_n 0, 1) := by decide +kernel
theorem dX8_reaches_10 : decode cX8_reaches 10 = .ok (.getfield 48, 3) := by decide +kernel
theorem dX8_reaches_13 : decode cX8_reaches 13 = .ok (.iload_n 2, 1) := by decide +kernel
theorem dX8_reaches_14 : decode cX8_reaches 14 = .ok (.iload_n 2, 1) := by decide +kernel
theorem dX8_reaches_15 : decode cX8_reaches 15 = .ok (.iload_n 1, 1) := by decide +kernel
theorem dX8_reaches_16 : decode cX8_reaches 16 = .ok (.if_icmp .ne 7, 3) := by decide +kernel
theorem dX8_reaches_19 : decode cX8_reaches 19 = .ok (.iconst 1, 1) := by decide +kernel
theorem dX8_reaches_20 : decode cX8_reaches 20 = .ok (.goto 4, 3) := by decide +kernel
theorem dX8_reaches_23 : decode cX8_reaches 23 = .ok (.iconst 0, 1) := by decide +kernel
theorem dX8_reaches_24 : decode cX8_reaches 24 = .ok (.bastore, 1) := by decide +kernel
theorem dX8_reaches_25 : decode cX8_reaches 25 = .ok (.aload_n 0, 1) := by decide +kernel
theorem dX8_reaches_26 : decode cX8_reaches 26 = .ok (.getfield 51, 3) := by decide +kernel
theorem dX8_reaches_29 : decode cX8_reaches 29 = .ok (.iload_n 2, 1) := by decide +kernel
theorem dX8_reaches_30 : decode cX8_reaches 30 = .ok (.aload_n 0, 1) := by decide +kernel
theorem dX8_reaches_31 : decode cX8_reaches 31 = .ok (.getfield 44, 3) := by decide +kernel
theorem dX8_reaches_34 : decode cX8_reaches 34 = .ok (.iload_n 2, 1) := by decide +kernel
theorem dX8_reaches_35 : decode cX8_reaches 35 = .ok (.baload, 1) := by decide +kernel
theorem dX8_reaches_36 : decode cX8_reaches 36 = .ok (.bastore, 1) := by decide +kernel
theorem dX8_reaches_37 : decode cX8_reaches 37 = .ok (.iinc 2 1, 3) := by decide +kernel
theorem dX8_reaches_40 : decode cX8_reaches 40 = .ok (.goto (-38), 3) := by decide +kernel
theorem dX8_reaches_43 : decode cX8_reaches 43 = .ok (.iconst 1, 1) := by decide +kernel
theorem dX8_reaches_44 : decode cX8_reaches 44 = .ok (.istore_n 2, 1) := by decide +kernel
theorem dX8_reaches_45 : decode cX8_reaches 45 = .ok (.iload_n 2, 1) := by decide +kernel
theorem dX8_reaches_46 : decode cX8_reaches 46 = .ok (.ifCond .eq 172, 3) := by decide +kernel
theorem dX8_reaches_49 : decode cX8_reaches 49 = .ok (.iconst 0, 1) := by decide +kernel
theorem dX8_reaches_50 : decode cX8_reaches 50 = .ok (.istore_n 2, 1) := by decide +kernel
theorem dX8_reaches_51 : decode cX8_reaches 51 = .ok (.iconst 0, 1) := by decide +kernel
theorem dX8_reaches_52 : decode cX8_reaches 52 = .ok (.istore_n 3, 1) := by decide +kernel
theorem dX8_reaches_53 : decode cX8_reaches 53 = .ok (.iload_n 3, 1) := by decide +kernel
theorem dX8_reaches_54 : decode cX8_reaches 54 = .ok (.aload_n 0, 1) := by decide +kernel
theorem dX8_reaches_55 : decode cX8_reaches 55 = .ok (.getfield 142, 3) := by decide +kernel
theorem dX8_reaches_58 : decode cX8_reaches 58 = .ok (.if_icmp .ge 157, 3) := by decide +kernel
theorem dX8_reaches_61 : decode cX8_reaches 61 = .ok (.aload_n 0, 1) := by decide +kernel
theorem dX8_reaches_62 : decode cX8_reaches 62 = .ok (.getfield 38, 3) := by decide +kernel
theorem dX8_reaches_65 : decode cX8_reaches 65 = .ok (.iload_n 3, 1) := by decide +kernel
theorem dX8_reaches_66 : decode cX8_reaches 66 = .ok (.iaload, 1) := by decide +kernel
theorem dX8_reaches_67 : decode cX8_reaches 67 = .ok (.invokestatic 145, 3) := by decide +kernel
theorem dX8_reaches_70 : decode cX8_reaches 70 = .ok (.istore 4, 2) := by decide +kernel
theorem dX8_reaches_72 : decode cX8_reaches 72 = .ok (.aload_n 0, 1) := by decide +kernel
theorem dX8_reaches_73 : decode cX8_reaches 73 = .ok (.getfield 38, 3) := by decide +kernel
theorem dX8_reaches_76 : decode cX8_reaches 76 = .ok (.iload_n 3, 1) := by decide +kernel
theorem dX8_reaches_77 : decode cX8_reaches 77 = .ok (.iaload, 1) := by decide +kernel
theorem dX8_reaches_78 : decode cX8_reaches 78 = .ok (.invokestatic 149, 3) := by decide +kernel
theorem dX8_reaches_81 : decode cX8_reaches 81 = .ok (.istore 5, 2) := by decide +kernel
theorem dX8_reaches_83 : decode cX8_reaches 83 = .ok (.aload_n 0, 1) := by decide +kernel
theorem dX8_reaches_84 : decode cX8_reaches 84 = .ok (.getfield 48, 3) := by decide +kernel
theorem dX8_reaches_87 : decode cX8_reaches 87 = .ok (.iload 4, 2) := by decide +kernel
theorem dX8_reaches_89 : decode cX8_reaches 89 = .ok (.baload, 1) := by decide +kernel
theorem dX8_reaches_90 : decode cX8_reaches 90 = .ok (.ifCond .eq 13, 3) := by decide +kernel
theorem dX8_reaches_93 : decode cX8_reaches 93 = .ok (.aload_n 0, 1) := by decide +kernel
theorem dX8_reaches_94 : decode cX8_reaches 94 = .ok (.getfield 48, 3) := by decide +kernel
theorem dX8_reaches_97 : decode cX8_reaches 97 = .ok (.iload 5, 2) := by decide +kernel
theorem dX8_reaches_99 : decode cX8_reaches 99 = .ok (.baload, 1) := by decide +kernel
theorem dX8_reaches_100 : decode cX8_reaches 100 = .ok (.ifCond .eq 23, 3) := by decide +kernel
theorem dX8_reaches_103 : decode cX8_reaches 103 = .ok (.aload_n 0, 1) := by decide +kernel
theorem dX8_reaches_104 : decode cX8_reaches 104 = .ok (.getfield 51, 3) := by decide +kernel
theorem dX8_reaches_107 : decode cX8_reaches 107 = .ok (.iload 5, 2) := by decide +kernel
theorem dX8_reaches_109 : decode cX8_reaches 109 = .ok (.baload, 1) := by decide +kernel
theorem dX8_reaches_110 : decode cX8_reaches 110 = .ok (.ifCond .eq 17, 3) := by decide +kernel
theorem dX8_reaches_113 : decode cX8_reaches 113 = .ok (.aload_n 0, 1) := by decide +kernel
theorem dX8_reaches_114 : decode cX8_reaches 114 = .ok (.getfield 51, 3) := by decide +kernel
theorem dX8_reaches_117 : decode cX8_reaches 117 = .ok (.iload 4, 2) := by decide +kernel
theorem dX8_reaches_119 : decode cX8_reaches 119 = .ok (.baload, 1) := by decide +kernel
theorem dX8_reaches_120 : decode cX8_reaches 120 = .ok (.ifCond .ne 7, 3) := by decide +kernel
theorem dX8_reaches_123 : decode cX8_reaches 123 = .ok (.iconst 1, 1) := by decide +kernel
theorem dX8_reaches_124 : decode cX8_reaches 124 = .ok (.goto 4, 3) := by decide +kernel
theorem dX8_reaches_127 : decode cX8_reaches 127 = .ok (.iconst 0, 1) := by decide +kernel
theorem dX8_reaches_128 : decode cX8_reaches 128 = .ok (.istore 6, 2) := by decide +kernel
theorem dX8_reaches_130 : decode cX8_reaches 130 = .ok (.aload_n 0, 1) := by decide +kernel
theorem dX8_reaches_131 : decode cX8_reaches 131 = .ok (.getfield 48, 3) := by decide +kernel
theorem dX8_reaches_134 : decode cX8_reaches 134 = .ok (.iload 5, 2) := by decide +kernel
theorem dX8_reaches_136 : decode cX8_reaches 136 = .ok (.aload_n 0, 1) := by decide +kernel
theorem dX8_reaches_137 : decode cX8_reaches 137 = .ok (.getfield 48, 3) := by decide +kernel
theorem dX8_reaches_140 : decode cX8_reaches 140 = .ok (.iload 5, 2) := by decide +kernel
theorem dX8_reaches_142 : decode cX8_reaches 142 = .ok (.baload, 1) := by decide +kernel
theorem dX8_reaches_143 : decode cX8_reaches 143 = .ok (.ifCond .ne 13, 3) := by decide +kernel
theorem dX8_reaches_146 : decode cX8_reaches 146 = .ok (.aload_n 0, 1) := by decide +kernel
theorem dX8_reaches_147 : decode cX8_reaches 147 = .ok (.getfield 48, 3) := by decide +kernel
theorem dX8_reaches_150 : decode cX8_reaches 150 = .ok (.iload 4, 2) := by decide +kernel
theorem dX8_reaches_152 : decode cX8_reaches 152 = .ok (.baload, 1) := by decide +kernel
theorem dX8_reaches_153 : decode cX8_reaches 153 = .ok (.ifCond .eq 7, 3) := by decide +kernel
theorem dX8_reaches_156 : decode cX8_reaches 156 = .ok (.iconst 1, 1) := by decide +kernel
theorem dX8_reaches_157 : decode cX8_reaches 157 = .ok (.goto 4, 3) := by decide +kernel
theorem dX8_reaches_160 : decode cX8_reaches 160 = .ok (.iconst 0, 1) := by decide +kernel
theorem dX8_reaches_161 : decode cX8_reaches 161 = .ok (.bastore, 1) := by decide +kernel
theorem dX8_reaches_162 : decode cX8_reaches 162 = .ok (.aload_n 0, 1) := by decide +kernel
theorem dX8_reaches_163 : decode cX8_reaches 163 = .ok (.getfield 51, 3) := by decide +kernel
theorem dX8_reaches_166 : decode cX8_reaches 166 = .ok (.iload 4, 2) := by decide +kernel
theorem dX8_reaches_168 : decode cX8_reaches 168 = .ok (.aload_n 0, 1) := by decide +kernel
theorem dX8_reaches_169 : decode cX8_reaches 169 = .ok (.getfield 51, 3) := by decide +kernel
theorem dX8_reaches_172 : decode cX8_reaches 172 = .ok (.iload 4, 2) := by decide +kernel
theorem dX8_reaches_174 : decode cX8_reaches 174 = .ok (.baload, 1) := by decide +kernel
theorem dX8_reaches_175 : decode cX8_reaches 175 = .ok (.ifCond .ne 13, 3) := by decide +kernel
theorem dX8_reaches_178 : decode cX8_reaches 178 = .ok (.aload_n 0, 1) := by decide +kernel
theorem dX8_reaches_179 : decode cX8_reaches 179 = .ok (.getfield 51, 3) := by decide +kernel
theorem dX8_reaches_182 : decode cX8_reaches 182 = .ok (.iload 5, 2) := by decide +kernel
theorem dX8_reaches_184 : decode cX8_reaches 184 = .ok (.baload, 1) := by decide +kernel
theorem dX8_reaches_185 : decode cX8_reaches 185 = .ok (.ifCond .eq 7, 3) := by decide +kernel
theorem dX8_reaches_188 : decode cX8_reaches 188 = .ok (.iconst 1, 1) := by decide +kernel
theorem dX8_reaches_189 : decode cX8_reaches 189 = .ok (.goto 4, 3) := by decide +kernel
theorem dX8_reaches_192 : decode cX8_reaches 192 = .ok (.iconst 0, 1) := by decide +kernel
theorem dX8_reaches_193 : decode cX8_reaches 193 = .ok (.bastore, 1) := by decide +kernel
theorem dX8_reaches_194 : decode cX8_reaches 194 = .ok (.iload_n 2, 1) := by decide +kernel
theorem dX8_reaches_195 : decode cX8_reaches 195 = .ok (.ifCond .ne 8, 3) := by decide +kernel
theorem dX8_reaches_198 : decode cX8_reaches 198 = .ok (.iload 6, 2) := by decide +kernel
theorem dX8_reaches_200 : decode cX8_reaches 200 = .ok (.ifCond .eq 7, 3) := by decide +kernel
theorem dX8_reaches_203 : decode cX8_reaches 203 = .ok (.iconst 1, 1) := by decide +kernel
theorem dX8_reaches_204 : decode cX8_reaches 204 = .ok (.goto 4, 3) := by decide +kernel
theorem dX8_reaches_207 : decode cX8_reaches 207 = .ok (.iconst 0, 1) := by decide +kernel
theorem dX8_reaches_208 : decode cX8_reaches 208 = .ok (.istore_n 2, 1) := by decide +kernel
theorem dX8_reaches_209 : decode cX8_reaches 209 = .ok (.iinc 3 1, 3) := by decide +kernel
theorem dX8_reaches_212 : decode cX8_reaches 212 = .ok (.goto (-159), 3) := by decide +kernel
theorem dX8_reaches_215 : decode cX8_reaches 215 = .ok (.goto (-170), 3) := by decide +kernel
theorem dX8_reaches_218 : decode cX8_reaches 218 = .ok (.return_, 1) := by decide +kernel
set_option maxRecDepth 20000 in
theorem ggX8_nextArc_X8_targetOf : GoodIn wsX8_nextArc wsX8_targetOf := goodIn_g _ [(9, 1)] (by exact rfl) (by decide +kernel)
set_option maxRecDepth 20000 in
theorem gX8_nextArc_X8_targetOf : GoodIn wsX8_nextArc (va_wsS RX8 149 yX8_targetOf wsX8_targetOf) := goodIn_app (goodIn_of _ (by decide +kernel)) ggX8_nextArc_X8_targetOf
set_option maxRecDepth 20000 in
theorem ggX8_nextArc_X8_sourceOf : GoodIn wsX8_nextArc wsX8_sourceOf := goodIn_g _ [(12, 1)] (by exact rfl) (by decide +kernel)
set_option maxRecDepth 20000 in
theorem gX8_nextArc_X8_sourceOf : GoodIn wsX8_nextArc (va_wsS RX8 145 yX8_sourceOf wsX8_sourceOf) := goodIn_app (goodIn_of _ (by decide +kernel)) ggX8_nextArc_X8_sourceOf
theorem dX8_nextArc_0 : decode cX8_nextArc 0 = .ok (.iconst (-1), 1) := by decide +kernel
theorem dX8_nextArc_1 : decode cX8_nextArc 1 = .ok (.istore_n 3, 1) := by decide +kernel
theorem dX8_nextArc_2 : decode cX8_nextArc 2 = .ok (.iconst 0, 1) := by decide +kernel
theorem dX8_nextArc_3 : decode cX8_nextArc 3 = .ok (.istore 4, 2) := by decide +kernel
theorem dX8_nextArc_5 : decode cX8_nextArc 5 = .ok (.iload 4, 2) := by decide +kernel
theorem dX8_nextArc_7 : decode cX8_nextArc 7 = .ok (.aload_n 0, 1) := by decide +kernel
theorem dX8_nextArc_8 : decode cX8_nextArc 8 = .ok (.getfield 142, 3) := by decide +kernel
theorem dX8_nextArc_11 : decode cX8_nextArc 11 = .ok (.if_icmp .ge 138, 3) := by decide +kernel
theorem dX8_nextArc_14 : decode cX8_nextArc 14 = .ok (.aload_n 0, 1) := by decide +kernel
theorem dX8_nextArc_15 : decode cX8_nextArc 15 = .ok (.getfield 38, 3) := by decide +kernel
theorem dX8_nextArc_18 : decode cX8_nextArc 18 = .ok (.iload 4, 2) := by decide +kernel
theorem dX8_nextArc_20 : decode cX8_nextArc 20 = .ok (.iaload, 1) := by decide +kernel
theorem dX8_nextArc_21 : decode cX8_nextArc 21 = .ok (.invokestatic 149, 3) := by decide +kernel
theorem dX8_nextArc_24 : decode cX8_nextArc 24 = .ok (.istore 5, 2) := by decide +kernel
theorem dX8_nextArc_26 : decode cX8_nextArc 26 = .ok (.aload_n 0, 1) := by decide +kernel
theorem dX8_nextArc_27 : decode cX8_nextArc 27 = .ok (.getfield 38, 3) := by decide +kernel
theorem dX8_nextArc_30 : decode cX8_nextArc 30 = .ok (.iload 4, 2) := by decide +kernel
theorem dX8_nextArc_32 : decode cX8_nextArc 32 = .ok (.iaload, 1) := by decide +kernel
theorem dX8_nextArc_33 : decode cX8_nextArc 33 = .ok (.invokestatic 145, 3) := by decide +kernel
theorem dX8_nextArc_36 : decode cX8_nextArc 36 = .ok (.iload_n 1, 1) := by decide +kernel
theorem dX8_nextArc_37 : decode cX8_nextArc 37 = .ok (.if_icmp .ne 38, 3) := by decide +kernel
theorem dX8_nextArc_40 : decode cX8_nextArc 40 = .ok (.aload_n 0, 1) := by decide +kernel
theorem dX8_nextArc_41 : decode cX8_nextArc 41 = .ok (.getfield 38, 3) := by decide +kernel
theorem dX8_nextArc_44 : decode cX8_nextArc 44 = .ok (.iload 4, 2) := by decide +kernel
theorem dX8_nextArc_46 : decode cX8_nextArc 46 = .ok (.iaload, 1) := by decide +kernel
theorem dX8_nextArc_47 : decode cX8_nextArc 47 = .ok (.iload_n 2, 1) := by decide +kernel
theorem dX8_nextArc_48 : decode cX8_nextArc 48 = .ok (.if_icmp .le 27, 3) := by decide +kernel
theorem dX8_nextArc_51 : decode cX8_nextArc 51 = .ok (.aload_n 0, 1) := by decide +kernel
theorem dX8_nextArc_52 : decode cX8_nextArc 52 = .ok (.getfield 48, 3) := by decide +kernel
theorem dX8_nextArc_55 : decode cX8_nextArc 55 = .ok (.iload 5, 2) := by decide +kernel
theorem dX8_nextArc_57 : decode cX8_nextArc 57 = .ok (.baload, 1) := by decide +kernel
theorem dX8_nextArc_58 : decode cX8_nextArc 58 = .ok (.ifCond .eq 17, 3) := by decide +kernel
theorem dX8_nextArc_61 : decode cX8_nextArc 61 = .ok (.aload_n 0, 1) := by decide +kernel
theorem dX8_nextArc_62 : decode cX8_nextArc 62 = .ok (.getfield 51, 3) := by decide +kernel
theorem dX8_nextArc_65 : decode cX8_nextArc 65 = .ok (.iload 5, 2) := by decide +kernel
theorem dX8_nextArc_67 : decode cX8_nextArc 67 = .ok (.baload, 1) := by decide +kernel
theorem dX8_nextArc_68 : decode cX8_nextArc 68 = .ok (.ifCond .eq 7, 3) := by decide +kernel
theorem dX8_nextArc_71 : decode cX8_nextArc 71 = .ok (.iconst 1, 1) := by decide +kernel
theorem dX8_nextArc_72 : decode cX8_nextArc 72 = .ok (.goto 4, 3) := by decide +kernel
theorem dX8_nextArc_75 : decode cX8_nextArc 75 = .ok (.iconst 0, 1) := by decide +kernel
theorem dX8_nextArc_76 : decode cX8_nextArc 76 = .ok (.istore 6, 2) := by decide +kernel
theorem dX8_nextArc_78 : decode cX8_nextArc 78 = .ok (.iload 6, 2) := by decide +kernel
theorem dX8_nextArc_80 : decode cX8_nextArc 80 = .ok (.ifCond .eq 61, 3) := by decide +kernel
theorem dX8_nextArc_83 : decode cX8_nextArc 83 = .ok (.iload_n 3, 1) := by decide +kernel
theorem dX8_nextArc_84 : decode cX8_nextArc 84 = .ok (.iconst (-1), 1) := by decide +kernel
theorem dX8_nextArc_85 : decode cX8_nextArc 85 = .ok (.if_icmp .eq 51, 3) := by decide +kernel
theorem dX8_nextArc_88 : decode cX8_nextArc 88 = .ok (.aload_n 0, 1) := by decide +kernel
theorem dX8_nextArc_89 : decode cX8_nextArc 89 = .ok (.getfield 38, 3) := by decide +kernel
theorem dX8_nextArc_92 : decode cX8_nextArc 92 = .ok (.iload 4, 2) := by decide +kernel
theorem dX8_nextArc_94 : decode cX8_nextArc 94 = .ok (.iaload, 1) := by decide +kernel
theorem dX8_nextArc_95 : decode cX8_nextArc 95 = .ok (.aload_n 0, 1) := by decide +kernel
theorem dX8_nextArc_96 : decode cX8_nextArc 96 = .ok (.getfield 38, 3) := by decide +kernel
theorem dX8_nextArc_99 : decode cX8_nextArc 99 = .ok (.iload_n 3, 1) := by decide +kernel
theorem dX8_nextArc_100 : decode cX8_nextArc 100 = .ok (.iaload, 1) := by decide +kernel
theorem dX8_nextArc_101 : decode cX8_nextArc 101 = .ok (.if_icmp .lt 35, 3) := by decide +kernel
theorem dX8_nextArc_104 : decode cX8_nextArc 104 = .ok (.aload_n 0, 1) := by decide +kernel
theorem dX8_nextArc_105 : decode cX8_nextArc 105 = .ok (.getfield 38, 3) := by decide +kernel
theorem dX8_nextArc_108 : decode cX8_nextArc 108 = .ok (.iload 4, 2) := by decide +kernel
theorem dX8_nextArc_110 : decode cX8_nextArc 110 = .ok (.iaload, 1) := by decide +kernel
theorem dX8_nextArc_111 : decode cX8_nextArc 111 = .ok (.aload_n 0, 1) := by decide +kernel
theorem dX8_nextArc_112 : decode cX8_nextArc 112 = .ok (.getfield 38, 3) := by decide +kernel
theorem dX8_nextArc_115 : decode cX8_nextArc 115 = .ok (.iload_n 3, 1) := by decide +kernel
theorem dX8_nextArc_116 : decode cX8_nextArc 116 = .ok (.iaload, 1) := by decide +kernel
theorem dX8_nextArc_117 : decode cX8_nextArc 117 = .ok (.if_icmp .ne 24, 3) := by decide +kernel
theorem dX8_nextArc_120 : decode cX8_nextArc 120 = .ok (.aload_n 0, 1) := by decide +kernel
theorem dX8_nextArc_121 : decode cX8_nextArc 121 = .ok (.getfield 41, 3) := by decide +kernel
theorem dX8_nextArc_124 : decode cX8_nextArc 124 = .ok (.iload 4, 2) := by decide +kernel
theorem dX8_nextArc_126 : decode cX8_nextArc 126 = .ok (.iaload, 1) := by decide +kernel
theorem dX8_nextArc_127 : decode cX8_nextArc 127 = .ok (.aload_n 0, 1) := by decide +kernel
theorem dX8_nextArc_128 : decode cX8_nextArc 128 = .ok (.getfield 41, 3) := by decide +kernel
theorem dX8_nextArc_131 : decode cX8_nextArc 131 = .ok (.iload_n 3, 1) := by decide +kernel
theorem dX8_nextArc_132 : decode cX8_nextArc 132 = .ok (.iaload, 1) := by decide +kernel
theorem dX8_nextArc_133 : decode cX8_nextArc 133 = .ok (.if_icmp .ge 8, 3) := by decide +kernel
theorem dX8_nextArc_136 : decode cX8_nextArc 136 = .ok (.iload 4, 2) := by decide +kernel
theorem dX8_nextArc_138 : decode cX8_nextArc 138 = .ok (.goto 4, 3) := by decide +kernel
theorem dX8_nextArc_141 : decode cX8_nextArc 141 = .ok (.iload_n 3, 1) := by decide +kernel
theorem dX8_nextArc_142 : decode cX8_nextArc 142 = .ok (.istore_n 3, 1) := by decide +kernel
theorem dX8_nextArc_143 : decode cX8_nextArc 143 = .ok (.iinc 4 1, 3) := by decide +kernel
theorem dX8_nextArc_146 : decode cX8_nextArc 146 = .ok (.goto (-141), 3) := by decide +kernel
theorem dX8_nextArc_149 : decode cX8_nextArc 149 = .ok (.iload_n 3, 1) := by decide +kernel
theorem dX8_nextArc_150 : decode cX8_nextArc 150 = .ok (.ireturn, 1) := by decide +kernel
theorem dX8_finds_0 : decode cX8_finds 0 = .ok (.aload_n 0, 1) := by decide +kernel
theorem dX8_finds_1 : decode cX8_finds 1 = .ok (.getfield 54, 3) := by decide +kernel
theorem dX8_finds_4 : decode cX8_finds 4 = .ok (.iload_n 1, 1) := by decide +kernel
theorem dX8_finds_5 : decode cX8_finds 5 = .ok (.iaload, 1) := by decide +kernel
theorem dX8_finds_6 : decode cX8_finds 6 = .ok (.iconst (-1), 1) := by decide +kernel
theorem dX8_finds_7 : decode cX8_finds 7 = .ok (.if_icmp .ne 42, 3) := by decide +kernel
theorem dX8_finds_10 : decode cX8_finds 10 = .ok (.aload_n 0, 1) := by decide +kernel
theorem dX8_finds_11 : decode cX8_finds 11 = .ok (.getfield 54, 3) := by decide +kernel
theorem dX8_finds_14 : decode cX8_finds 14 = .ok (.iload_n 1, 1) := by decide +kernel
theorem dX8_finds_15 : decode cX8_finds 15 = .ok (.aload_n 0, 1) := by decide +kernel
theorem dX8_finds_16 : decode cX8_finds 16 = .ok (.getfield 152, 3) := by decide +kernel
theorem dX8_finds_19 : decode cX8_finds 19 = .ok (.iastore, 1) := by decide +kernel
theorem dX8_finds_20 : decode cX8_finds 20 = .ok (.aload_n 0, 1) := by decide +kernel
theorem dX8_finds_21 : decode cX8_finds 21 = .ok (.getfield 152, 3) := by decide +kernel
theorem dX8_finds_24 : decode cX8_finds 24 = .ok (.bipush 32, 2) := by decide +kernel
theorem dX8_finds_26 : decode cX8_finds 26 = .ok (.if_icmp .gt 13, 3) := by decide +kernel
theorem dX8_finds_29 : decode cX8_finds 29 = .ok (.aload_n 0, 1) := by decide +kernel
theorem dX8_finds_30 : decode cX8_finds 30 = .ok (.getfield 57, 3) := by decide +kernel
theorem dX8_finds_33 : decode cX8_finds 33 = .ok (.aload_n 0, 1) := by decide +kernel
theorem dX8_finds_34 : decode cX8_finds 34 = .ok (.getfield 152, 3) := by decide +kernel
theorem dX8_finds_37 : decode cX8_finds 37 = .ok (.iload_n 1, 1) := by decide +kernel
theorem dX8_finds_38 : decode cX8_finds 38 = .ok (.iastore, 1) := by decide +kernel
theorem dX8_finds_39 : decode cX8_finds 39 = .ok (.aload_n 0, 1) := by decide +kernel
theorem dX8_finds_40 : decode cX8_finds 40 = .ok (.dup, 1) := by decide +kernel
theorem dX8_finds_41 : decode cX8_finds 41 = .ok (.getfield 152, 3) := by decide +kernel
theorem dX8_finds_44 : decode cX8_finds 44 = .ok (.iconst 1, 1) := by decide +kernel
theorem dX8_finds_45 : decode cX8_finds 45 = .ok (.iadd, 1) := by decide +kernel
theorem dX8_finds_46 : decode cX8_finds 46 = .ok (.putfield 152, 3) := by decide +kernel
theorem dX8_finds_49 : decode cX8_finds 49 = .ok (.return_, 1) := by decide +kernel
set_option maxRecDepth 20000 in
theorem ggX8_trims_X8_reaches : GoodIn wsX8_trims wsX8_reaches := goodIn_g _ [(19, 2), (4, 1), (14, 1), (21, 1), (6, 1), (22, 2), (18, 1), (24, 4), (36, 47)] (by exact rfl) (by decide +kernel)
set_option maxRecDepth 20000 in
theorem gX8_trims_X8_reaches : GoodIn wsX8_trims (wsV RX8 155 RX8 yX8_reaches wsX8_reaches) := goodIn_app (goodIn_of _ (by decide +kernel)) ggX8_trims_X8_reaches
set_option maxRecDepth 20000 in
theorem ggX8_trims_X8_finds : GoodIn wsX8_trims wsX8_finds := goodIn_g _ [(31, 1), (1, 2), (5, 1), (36, 47)] (by exact rfl) (by decide +kernel)
set_option maxRecDepth 20000 in
theorem gX8_trims_X8_finds : GoodIn wsX8_trims (wsV RX8 162 RX8 yX8_finds wsX8_finds) := goodIn_app (goodIn_of _ (by decide +kernel)) ggX8_trims_X8_finds
set_option maxRecDepth 20000 in
theorem ggX8_trims_X8_nextArc : GoodIn wsX8_trims wsX8_nextArc := goodIn_g _ [(35, 1), (21, 1), (6, 1), (20, 1), (4, 1), (11, 1), (25, 2), (18, 1), (27, 1), (22, 3), (36, 47)] (by exact rfl) (by decide +kernel)
set_option maxRecDepth 20000 in
theorem gX8_trims_X8_nextArc : GoodIn wsX8_trims (wsV RX8 165 RX8 yX8_nextArc wsX8_nextArc) := goodIn_app (goodIn_of _ (by decide +kernel)) ggX8_trims_X8_nextArc
set_option maxRecDepth 20000 in
theorem ggX8_trims_X8_targetOf : GoodIn wsX8_trims wsX8_targetOf := goodIn_g _ [(27, 1)] (by exact rfl) (by decide +kernel)
set_option maxRecDepth 20000 in
theorem gX8_trims_X8_targetOf : GoodIn wsX8_trims (va_wsS RX8 149 yX8_targetOf wsX8_targetOf) := goodIn_app (goodIn_of _ (by decide +kernel)) ggX8_trims_X8_targetOf
theorem dX8_trims_0 : decode cX8_trims 0 = .ok (.aload_n 0, 1) := by decide +kernel
theorem dX8_trims_1 : decode cX8_trims 1 = .ok (.iload_n 1, 1) := by decide +kernel
theorem dX8_trims_2 : decode cX8_trims 2 = .ok (.invokevirtual 155, 3) := by decide +kernel
theorem dX8_trims_5 : decode cX8_trims 5 = .ok (.iconst 0, 1) := by decide +kernel
theorem dX8_trims_6 : decode cX8_trims 6 = .ok (.istore_n 2, 1) := by decide +kernel
theorem dX8_trims_7 : decode cX8_trims 7 = .ok (.iload_n 2, 1) := by decide +kernel
theorem dX8_trims_8 : decode cX8_trims 8 = .ok (.sipush 1024, 3) := by decide +kernel
theorem dX8_trims_11 : decode cX8_trims 11 = .ok (.if_icmp .ge 16, 3) := by decide +kernel
theorem dX8_trims_14 : decode cX8_trims 14 = .ok (.aload_n 0, 1) := by decide +kernel
theorem dX8_trims_15 : decode cX8_trims 15 = .ok (.getfield 54, 3) := by decide +kernel
theorem dX8_trims_18 : decode cX8_trims 18 = .ok (.iload_n 2, 1) := by decide +kernel
theorem dX8_trims_19 : decode cX8_trims 19 = .ok (.iconst (-1), 1) := by decide +kernel
theorem dX8_trims_20 : decode cX8_trims 20 = .ok (.iastore, 1) := by decide +kernel
theorem dX8_trims_21 : decode cX8_trims 21 = .ok (.iinc 2 1, 3) := by decide +kernel
theorem dX8_trims_24 : decode cX8_trims 24 = .ok (.goto (-17), 3) := by decide +kernel
theorem dX8_trims_27 : decode cX8_trims 27 = .ok (.aload_n 0, 1) := by decide +kernel
theorem dX8_trims_28 : decode cX8_trims 28 = .ok (.iconst 0, 1) := by decide +kernel
theorem dX8_trims_29 : decode cX8_trims 29 = .ok (.putfield 152, 3) := by decide +kernel
theorem dX8_trims_32 : decode cX8_trims 32 = .ok (.aload_n 0, 1) := by decide +kernel
theorem dX8_trims_33 : decode cX8_trims 33 = .ok (.iconst 0, 1) := by decide +kernel
theorem dX8_trims_34 : decode cX8_trims 34 = .ok (.putfield 159, 3) := by decide +kernel
theorem dX8_trims_37 : decode cX8_trims 37 = .ok (.aload_n 0, 1) := by decide +kernel
theorem dX8_trims_38 : decode cX8_trims 38 = .ok (.iload_n 1, 1) := by decide +kernel
theorem dX8_trims_39 : decode cX8_trims 39 = .ok (.invokevirtual 162, 3) := by decide +kernel
theorem dX8_trims_42 : decode cX8_trims 42 = .ok (.iconst 1, 1) := by decide +kernel
theorem dX8_trims_43 : decode cX8_trims 43 = .ok (.istore_n 2, 1) := by decide +kernel
theorem dX8_trims_44 : decode cX8_trims 44 = .ok (.iconst 0, 1) := by decide +kernel
theorem dX8_trims_45 : decode cX8_trims 45 = .ok (.istore_n 3, 1) := by decide +kernel
theorem dX8_trims_46 : decode cX8_trims 46 = .ok (.iload_n 3, 1) := by decide +kernel
theorem dX8_trims_47 : decode cX8_trims 47 = .ok (.aload_n 0, 1) := by decide +kernel
theorem dX8_trims_48 : decode cX8_trims 48 = .ok (.getfield 152, 3) := by decide +kernel
theorem dX8_trims_51 : decode cX8_trims 51 = .ok (.if_icmp .ge 214, 3) := by decide +kernel
theorem dX8_trims_54 : decode cX8_trims 54 = .ok (.iload_n 2, 1) := by decide +kernel
theorem dX8_trims_55 : decode cX8_trims 55 = .ok (.ifCond .eq 210, 3) := by decide +kernel
theorem dX8_trims_58 : decode cX8_trims 58 = .ok (.aload_n 0, 1) := by decide +kernel
theorem dX8_trims_59 : decode cX8_trims 59 = .ok (.getfield 51, 3) := by decide +kernel
theorem dX8_trims_62 : decode cX8_trims 62 = .ok (.iload_n 1, 1) := by decide +kernel
theorem dX8_trims_63 : decode cX8_trims 63 = .ok (.baload, 1) := by decide +kernel
theorem dX8_trims_64 : decode cX8_trims 64 = .ok (.ifCond .eq 201, 3) := by decide +kernel
theorem dX8_trims_67 : decode cX8_trims 67 = .ok (.aload_n 0, 1) := by decide +kernel
theorem dX8_trims_68 : decode cX8_trims 68 = .ok (.aload_n 0, 1) := by decide +kernel
theorem dX8_trims_69 : decode cX8_trims 69 = .ok (.getfield 57, 3) := by decide +kernel
theorem dX8_trims_72 : decode cX8_trims 72 = .ok (.iload_n 3, 1) := by decide +kernel
theorem dX8_trims_73 : decode cX8_trims 73 = .ok (.iaload, 1) := by decide +kernel
theorem dX8_trims_74 : decode cX8_trims 74 = .ok (.iconst (-1), 1) := by decide +kernel
theorem dX8_trims_75 : decode cX8_trims 75 = .ok (.invokevirtual 165, 3) := by decide +kernel
theorem dX8_trims_78 : decode cX8_trims 78 = .ok (.istore 4, 2) := by decide +kernel
theorem dX8_trims_80 : decode cX8_trims 80 = .ok (.iload 4, 2) := by decide +kernel
theorem dX8_trims_82 : decode cX8_trims 82 = .ok (.iconst (-1), 1) := by decide +kernel
theorem dX8_trims_83 : decode cX8_trims 83 = .ok (.if_icmp .eq 176, 3) := by decide +kernel
theorem dX8_trims_86 : decode cX8_trims 86 = .ok (.iload_n 2, 1) := by decide +kernel
theorem dX8_trims_87 : decode cX8_trims 87 = .ok (.ifCond .eq 172, 3) := by decide +kernel
theorem dX8_trims_90 : decode cX8_trims 90 = .ok (.aload_n 0, 1) := by decide +kernel
theorem dX8_trims_91 : decode cX8_trims 91 = .ok (.aload_n 0, 1) := by decide +kernel
theorem dX8_trims_92 : decode cX8_trims 92 = .ok (.getfield 38, 3) := by decide +kernel
theorem dX8_trims_95 : decode cX8_trims 95 = .ok (.iload 4, 2) := by decide +kernel
theorem dX8_trims_97 : decode cX8_trims 97 = .ok (.iaload, 1) := by decide +kernel
theorem dX8_trims_98 : decode cX8_trims 98 = .ok (.invokestatic 149, 3) := by decide +kernel
theorem dX8_trims_101 : decode cX8_trims 101 = .ok (.invokevirtual 162, 3) := by decide +kernel
theorem dX8_trims_104 : decode cX8_trims 104 = .ok (.aload_n 0, 1) := by decide +kernel
theorem dX8_trims_105 : decode cX8_trims 105 = .ok (.getfield 159, 3) := by decide +kernel
theorem dX8_trims_108 : decode cX8_trims 108 = .ok (.sipush 160, 3) := by decide +kernel
theorem dX8_trims_111 : decode cX8_trims 111 = .ok (.if_icmp .ge 16, 3) := by decide +kernel
theorem dX8_trims_114 : decode cX8_trims 114 = .ok (.aload_n 0, 1) := by decide +kernel
theorem dX8_trims_115 : decode cX8_trims 115 = .ok (.getfield 152, 3) := by decide +kernel
theorem dX8_trims_118 : decode cX8_trims 118 = .ok (.bipush 32, 2) := by decide +kernel
theorem dX8_trims_120 : decode cX8_trims 120 = .ok (.if_icmp .gt 7, 3) := by decide +kernel
theorem dX8_trims_123 : decode cX8_trims 123 = .ok (.iconst 1, 1) := by decide +kernel
theorem dX8_trims_124 : decode cX8_trims 124 = .ok (.goto 4, 3) := by decide +kernel
theorem dX8_trims_127 : decode cX8_trims 127 = .ok (.iconst 0, 1) := by decide +kernel
theorem dX8_trims_128 : decode cX8_trims 128 = .ok (.istore_n 2, 1) := by decide +kernel
theorem dX8_trims_129 : decode cX8_trims 129 = .ok (.iload_n 2, 1) := by decide +kernel
theorem dX8_trims_130 : decode cX8_trims 130 = .ok (.ifCond .eq 107, 3) := by decide +kernel
theorem dX8_trims_133 : decode cX8_trims 133 = .ok (.aload_n 0, 1) := by decide +kernel
theorem dX8_trims_134 : decode cX8_trims 134 = .ok (.getfield 60, 3) := by decide +kernel
theorem dX8_trims_137 : decode cX8_trims 137 = .ok (.aload_n 0, 1) := by decide +kernel
theorem dX8_trims_138 : decode cX8_trims 138 = .ok (.getfield 159, 3) := by decide +kernel
theorem dX8_trims_141 : decode cX8_trims 141 = .ok (.iload_n 3, 1) := by decide +kernel
theorem dX8_trims_142 : decode cX8_trims 142 = .ok (.iastore, 1) := by decide +kernel
theorem dX8_trims_143 : decode cX8_trims 143 = .ok (.aload_n 0, 1) := by decide +kernel
theorem dX8_trims_144 : decode cX8_trims 144 = .ok (.getfield 63, 3) := by decide +kernel
theorem dX8_trims_147 : decode cX8_trims 147 = .ok (.aload_n 0, 1) := by decide +kernel
theorem dX8_trims_148 : decode cX8_trims 148 = .ok (.getfield 159, 3) := by decide +kernel
theorem dX8_trims_151 : decode cX8_trims 151 = .ok (.aload_n 0, 1) := by decide +kernel
theorem dX8_trims_152 : decode cX8_trims 152 = .ok (.getfield 38, 3) := by decide +kernel
theorem dX8_trims_155 : decode cX8_trims 155 = .ok (.iload 4, 2) := by decide +kernel
theorem dX8_trims_157 : decode cX8_trims 157 = .ok (.iaload, 1) := by decide +kernel
theorem dX8_trims_158 : decode cX8_trims 158 = .ok (.bipush 14, 2) := by decide +kernel
theorem dX8_trims_160 : decode cX8_trims 160 = .ok (.ishr, 1) := by decide +kernel
theorem dX8_trims_161 : decode cX8_trims 161 = .ok (.bipush 15, 2) := by decide +kernel
theorem dX8_trims_163 : decode cX8_trims 163 = .ok (.iand, 1) := by decide +kernel
theorem dX8_trims_164 : decode cX8_trims 164 = .ok (.iastore, 1) := by decide +kernel
theorem dX8_trims_165 : decode cX8_trims 165 = .ok (.aload_n 0, 1) := by decide +kernel
theorem dX8_trims_166 : decode cX8_trims 166 = .ok (.getfield 66, 3) := by decide +kernel
theorem dX8_trims_169 : decode cX8_trims 169 = .ok (.aload_n 0, 1) := by decide +kernel
theorem dX8_trims_170 : decode cX8_trims 170 = .ok (.getfield 159, 3) := by decide +kernel
theorem dX8_trims_173 : decode cX8_trims 173 = .ok (.aload_n 0, 1) := by decide +kernel
theorem dX8_trims_174 : decode cX8_trims 174 = .ok (.getfield 38, 3) := by decide +kernel
theorem dX8_trims_177 : decode cX8_trims 177 = .ok (.iload 4, 2) := by decide +kernel
theorem dX8_trims_179 : decode cX8_trims 179 = .ok (.iaload, 1) := by decide +kernel
theorem dX8_trims_180 : decode cX8_trims 180 = .ok (.bipush 10, 2) := by decide +kernel
theorem dX8_trims_182 : decode cX8_trims 182 = .ok (.ishr, 1) := by decide +kernel
theorem dX8_trims_183 : decode cX8_trims 183 = .ok (.bipush 15, 2) := by decide +kernel
theorem dX8_trims_185 : decode cX8_trims 185 = .ok (.iand, 1) := by decide +kernel
theorem dX8_trims_186 : decode cX8_trims 186 = .ok (.iastore, 1) := by decide +kernel
theorem dX8_trims_187 : decode cX8_trims 187 = .ok (.aload_n 0, 1) := by decide +kernel
theorem dX8_trims_188 : decode cX8_trims 188 = .ok (.getfield 69, 3) := by decide +kernel
theorem dX8_trims_191 : decode cX8_trims 191 = .ok (.aload_n 0, 1) := by decide +kernel
theorem dX8_trims_192 : decode cX8_trims 192 = .ok (.getfield 159, 3) := by decide +kernel
theorem dX8_trims_195 : decode cX8_trims 195 = .ok (.aload_n 0, 1) := by decide +kernel
theorem dX8_trims_196 : decode cX8_trims 196 = .ok (.getfield 41, 3) := by decide +kernel
theorem dX8_trims_199 : decode cX8_trims 199 = .ok (.iload 4, 2) := by decide +kernel
theorem dX8_trims_201 : decode cX8_trims 201 = .ok (.iaload, 1) := by decide +kernel
theorem dX8_trims_202 : decode cX8_trims 202 = .ok (.iastore, 1) := by decide +kernel
theorem dX8_trims_203 : decode cX8_trims 203 = .ok (.aload_n 0, 1) := by decide +kernel
theorem dX8_trims_204 : decode cX8_trims 204 = .ok (.getfield 72, 3) := by decide +kernel
theorem dX8_trims_207 : decode cX8_trims 207 = .ok (.aload_n 0, 1) := by decide +kernel
theorem dX8_trims_208 : decode cX8_trims 208 = .ok (.getfield 159, 3) := by decide +kernel
theorem dX8_trims_211 : decode cX8_trims 211 = .ok (.aload_n 0, 1) := by decide +kernel
theorem dX8_trims_212 : decode cX8_trims 212 = .ok (.getfield 54, 3) := by decide +kernel
theorem dX8_trims_215 : decode cX8_trims 215 = .ok (.aload_n 0, 1) := by decide +kernel
theorem dX8_trims_216 : decode cX8_trims 216 = .ok (.getfield 38, 3) := by decide +kernel
theorem dX8_trims_219 : decode cX8_trims 219 = .ok (.iload 4, 2) := by decide +kernel
theorem dX8_trims_221 : decode cX8_trims 221 = .ok (.iaload, 1) := by decide +kernel
theorem dX8_trims_222 : decode cX8_trims 222 = .ok (.invokestatic 149, 3) := by decide +kernel
theorem dX8_trims_225 : decode cX8_trims 225 = .ok (.iaload, 1) := by decide +kernel
theorem dX8_trims_226 : decode cX8_trims 226 = .ok (.iastore, 1) := by decide +kernel
theorem dX8_trims_227 : decode cX8_trims 227 = .ok (.aload_n 0, 1) := by decide +kernel
theorem dX8_trims_228 : decode cX8_trims 228 = .ok (.dup, 1) := by decide +kernel
theorem dX8_trims_229 : decode cX8_trims 229 = .ok (.getfield 159, 3) := by decide +kernel
theorem dX8_trims_232 : decode cX8_trims 232 = .ok (.iconst 1, 1) := by decide +kernel
theorem dX8_trims_233 : decode cX8_trims 233 = .ok (.iadd, 1) := by decide +kernel
theorem dX8_trims_234 : decode cX8_trims 234 = .ok (.putfield 159, 3) := by decide +kernel
theorem dX8_trims_237 : decode cX8_trims 237 = .ok (.aload_n 0, 1) := by decide +kernel
theorem dX8_trims_238 : decode cX8_trims 238 = .ok (.aload_n 0, 1) := by decide +kernel
theorem dX8_trims_239 : decode cX8_trims 239 = .ok (.getfield 57, 3) := by decide +kernel
theorem dX8_trims_242 : decode cX8_trims 242 = .ok (.iload_n 3, 1) := by decide +kernel
theorem dX8_trims_243 : decode cX8_trims 243 = .ok (.iaload, 1) := by decide +kernel
theorem dX8_trims_244 : decode cX8_trims 244 = .ok (.aload_n 0, 1) := by decide +kernel
theorem dX8_trims_245 : decode cX8_trims 245 = .ok (.getfield 38, 3) := by decide +kernel
theorem dX8_trims_248 : decode cX8_trims 248 = .ok (.iload 4, 2) := by decide +kernel
theorem dX8_trims_250 : decode cX8_trims 250 = .ok (.iaload, 1) := by decide +kernel
theorem dX8_trims_251 : decode cX8_trims 251 = .ok (.invokevirtual 165, 3) := by decide +kernel
theorem dX8_trims_254 : decode cX8_trims 254 = .ok (.istore 4, 2) := by decide +kernel
theorem dX8_trims_256 : decode cX8_trims 256 = .ok (.goto (-176), 3) := by decide +kernel
theorem dX8_trims_259 : decode cX8_trims 259 = .ok (.iinc 3 1, 3) := by decide +kernel
theorem dX8_trims_262 : decode cX8_trims 262 = .ok (.goto (-216), 3) := by decide +kernel
theorem dX8_trims_265 : decode cX8_trims 265 = .ok (.aload_n 0, 1) := by decide +kernel
theorem dX8_trims_266 : decode cX8_trims 266 = .ok (.iconst 0, 1) := by decide +kernel
theorem dX8_trims_267 : decode cX8_trims 267 = .ok (.putfield 169, 3) := by decide +kernel
theorem dX8_trims_270 : decode cX8_trims 270 = .ok (.iconst 0, 1) := by decide +kernel
theorem dX8_trims_271 : decode cX8_trims 271 = .ok (.istore_n 3, 1) := by decide +kernel
theorem dX8_trims_272 : decode cX8_trims 272 = .ok (.iload_n 3, 1) := by decide +kernel
theorem dX8_trims_273 : decode cX8_trims 273 = .ok (.aload_n 0, 1) := by decide +kernel
theorem dX8_trims_274 : decode cX8_trims 274 = .ok (.getfield 152, 3) := by decide +kernel
theorem dX8_trims_277 : decode cX8_trims 277 = .ok (.if_icmp .ge 43, 3) := by decide +kernel
theorem dX8_trims_280 : decode cX8_trims 280 = .ok (.iload_n 2, 1) := by decide +kernel
theorem dX8_trims_281 : decode cX8_trims 281 = .ok (.ifCond .eq 39, 3) := by decide +kernel
theorem dX8_trims_284 : decode cX8_trims 284 = .ok (.aload_n 0, 1) := by decide +kernel
theorem dX8_trims_285 : decode cX8_trims 285 = .ok (.dup, 1) := by decide +kernel
theorem dX8_trims_286 : decode cX8_trims 286 = .ok (.getfield 169, 3) := by decide +kernel
theorem dX8_trims_289 : decode cX8_trims 289 = .ok (.aload_n 0, 1) := by decide +kernel
theorem dX8_trims_290 : decode cX8_trims 290 = .ok (.getfield 44, 3) := by decide +kernel
theorem dX8_trims_293 : decode cX8_trims 293 = .ok (.aload_n 0, 1) := by decide +kernel
theorem dX8_trims_294 : decode cX8_trims 294 = .ok (.getfield 57, 3) := by decide +kernel
theorem dX8_trims_297 : decode cX8_trims 297 = .ok (.iload_n 3, 1) := by decide +kernel
theorem dX8_trims_298 : decode cX8_trims 298 = .ok (.iaload, 1) := by decide +kernel
theorem dX8_trims_299 : decode cX8_trims 299 = .ok (.baload, 1) := by decide +kernel
theorem dX8_trims_300 : decode cX8_trims 300 = .ok (.ifCond .eq 9, 3) := by decide +kernel
theorem dX8_trims_303 : decode cX8_trims 303 = .ok (.iconst 1, 1) := by decide +kernel
theorem dX8_trims_304 : decode cX8_trims 304 = .ok (.iload_n 3, 1) := by decide +kernel
theorem dX8_trims_305 : decode cX8_trims 305 = .ok (.ishl, 1) := by decide +kernel
theorem dX8_trims_306 : decode cX8_trims 306 = .ok (.goto 4, 3) := by decide +kernel
theorem dX8_trims_309 : decode cX8_trims 309 = .ok (.iconst 0, 1) := by decide +kernel
theorem dX8_trims_310 : decode cX8_trims 310 = .ok (.ior, 1) := by decide +kernel
theorem dX8_trims_311 : decode cX8_trims 311 = .ok (.putfield 169, 3) := by decide +kernel
theorem dX8_trims_314 : decode cX8_trims 314 = .ok (.iinc 3 1, 3) := by decide +kernel
theorem dX8_trims_317 : decode cX8_trims 317 = .ok (.goto (-45), 3) := by decide +kernel
theorem dX8_trims_320 : decode cX8_trims 320 = .ok (.iload_n 2, 1) := by decide +kernel
theorem dX8_trims_321 : decode cX8_trims 321 = .ok (.ireturn, 1) := by decide +kernel
theorem dX8_isBehind_0 : decode cX8_isBehind 0 = .ok (.aload_n 0, 1) := by decide +kernel
theorem dX8_isBehind_1 : decode cX8_isBehind 1 = .ok (.getfield 60, 3) := by decide +kernel
theorem dX8_isBehind_4 : decode cX8_isBehind 4 = .ok (.iload_n 1, 1) := by decide +kernel
theorem dX8_isBehind_5 : decode cX8_isBehind 5 = .ok (.iaload, 1) := by decide +kernel
theorem dX8_isBehind_6 : decode cX8_isBehind 6 = .ok (.aload_n 0, 1) := by decide +kernel
theorem dX8_isBehind_7 : decode cX8_isBehind 7 = .ok (.getfield 60, 3) := by decide +kernel
theorem dX8_isBehind_10 : decode cX8_isBehind 10 = .ok (.iload_n 2, 1) := by decide +kernel
theorem dX8_isBehind_11 : decode cX8_isBehind 11 = .ok (.iaload, 1) := by decide +kernel
theorem dX8_isBehind_12 : decode cX8_isBehind 12 = .ok (.if_icmp .eq 26, 3) := by decide +kernel
theorem dX8_isBehind_15 : decode cX8_isBehind 15 = .ok (.aload_n 0, 1) := by decide +kernel
theorem dX8_isBehind_16 : decode cX8_isBehind 16 = .ok (.getfield 60, 3) := by decide +kernel
theorem dX8_isBehind_19 : decode cX8_isBehind 19 = .ok (.iload_n 1, 1) := by decide +kernel
theorem dX8_isBehind_20 : decode cX8_isBehind 20 = .ok (.iaload, 1) := by decide +kernel
theorem dX8_isBehind_21 : decode cX8_isBehind 21 = .ok (.aload_n 0, 1) := by decide +kernel
theorem dX8_isBehind_22 : decode cX8_isBehind 22 = .ok (.getfield 60, 3) := by decide +kernel
theorem dX8_isBehind_25 : decode cX8_isBehind 25 = .ok (.iload_n 2, 1) := by decide +kernel
theorem dX8_isBehind_26 : decode cX8_isBehind 26 = .ok (.iaload, 1) := by decide +kernel
theorem dX8_isBehind_27 : decode cX8_isBehind 27 = .ok (.if_icmp .le 7, 3) := by decide +kernel
theorem dX8_isBehind_30 : decode cX8_isBehind 30 = .ok (.iconst 1, 1) := by decide +kernel
theorem dX8_isBehind_31 : decode cX8_isBehind 31 = .ok (.goto 103, 3) := by decide +kernel
theorem dX8_isBehind_34 : decode cX8_isBehind 34 = .ok (.iconst 0, 1) := by decide +kernel
theorem dX8_isBehind_35 : decode cX8_isBehind 35 = .ok (.goto 99, 3) := by decide +kernel
theorem dX8_isBehind_38 : decode cX8_isBehind 38 = .ok (.aload_n 0, 1) := by decide +kernel
theorem dX8_isBehind_39 : decode cX8_isBehind 39 = .ok (.getfield 63, 3) := by decide +kernel
theorem dX8_isBehind_42 : decode cX8_isBehind 42 = .ok (.iload_n 1, 1) := by decide +kernel
theorem dX8_isBehind_43 : decode cX8_isBehind 43 = .ok (.iaload, 1) := by decide +kernel
theorem dX8_isBehind_44 : decode cX8_isBehind 44 = .ok (.aload_n 0, 1) := by decide +kernel
theorem dX8_isBehind_45 : decode cX8_isBehind 45 = .ok (.getfield 63, 3) := by decide +kernel
theorem dX8_isBehind_48 : decode cX8_isBehind 48 = .ok (.iload_n 2, 1) := by decide +kernel
theorem dX8_isBehind_49 : decode cX8_isBehind 49 = .ok (.iaload, 1) := by decide +kernel
theorem dX8_isBehind_50 : decode cX8_isBehind 50 = .ok (.if_icmp .eq 26, 3) := by decide +kernel
theorem dX8_isBehind_53 : decode cX8_isBehind 53 = .ok (.aload_n 0, 1) := by decide +kernel
theorem dX8_isBehind_54 : decode cX8_isBehind 54 = .ok (.getfield 63, 3) := by decide +kernel
theorem dX8_isBehind_57 : decode cX8_isBehind 57 = .ok (.iload_n 1, 1) := by decide +kernel
theorem dX8_isBehind_58 : decode cX8_isBehind 58 = .ok (.iaload, 1) := by decide +kernel
theorem dX8_isBehind_59 : decode cX8_isBehind 59 = .ok (.aload_n 0, 1) := by decide +kernel
theorem dX8_isBehind_60 : decode cX8_isBehind 60 = .ok (.getfield 63, 3) := by decide +kernel
theorem dX8_isBehind_63 : decode cX8_isBehind 63 = .ok (.iload_n 2, 1) := by decide +kernel
theorem dX8_isBehind_64 : decode cX8_isBehind 64 = .ok (.iaload, 1) := by decide +kernel
theorem dX8_isBehind_65 : decode cX8_isBehind 65 = .ok (.if_icmp .le 7, 3) := by decide +kernel
theorem dX8_isBehind_68 : decode cX8_isBehind 68 = .ok (.iconst 1, 1) := by decide +kernel
theorem dX8_isBehind_69 : decode cX8_isBehind 69 = .ok (.goto 65, 3) := by decide +kernel
theorem dX8_isBehind_72 : decode cX8_isBehind 72 = .ok (.iconst 0, 1) := by decide +kernel
theorem dX8_isBehind_73 : decode cX8_isBehind 73 = .ok (.goto 61, 3) := by decide +kernel
theorem dX8_isBehind_76 : decode cX8_isBehind 76 = .ok (.aload_n 0, 1) := by decide +kernel
theorem dX8_isBehind_77 : decode cX8_isBehind 77 = .ok (.getfield 66, 3) := by decide +kernel
theorem dX8_isBehind_80 : decode cX8_isBehind 80 = .ok (.iload_n 1, 1) := by decide +kernel
theorem dX8_isBehind_81 : decode cX8_isBehind 81 = .ok (.iaload, 1) := by decide +kernel
theorem dX8_isBehind_82 : decode cX8_isBehind 82 = .ok (.aload_n 0, 1) := by decide +kernel
theorem dX8_isBehind_83 : decode cX8_isBehind 83 = .ok (.getfield 66, 3) := by decide +kernel
theorem dX8_isBehind_86 : decode cX8_isBehind 86 = .ok (.iload_n 2, 1) := by decide +kernel
theorem dX8_isBehind_87 : decode cX8_isBehind 87 = .ok (.iaload, 1) := by decide +kernel
theorem dX8_isBehind_88 : decode cX8_isBehind 88 = .ok (.if_icmp .eq 26, 3) := by decide +kernel
theorem dX8_isBehind_91 : decode cX8_isBehind 91 = .ok (.aload_n 0, 1) := by decide +kernel
theorem dX8_isBehind_92 : decode cX8_isBehind 92 = .ok (.getfield 66, 3) := by decide +kernel
theorem dX8_isBehind_95 : decode cX8_isBehind 95 = .ok (.iload_n 1, 1) := by decide +kernel
theorem dX8_isBehind_96 : decode cX8_isBehind 96 = .ok (.iaload, 1) := by decide +kernel
theorem dX8_isBehind_97 : decode cX8_isBehind 97 = .ok (.aload_n 0, 1) := by decide +kernel
theorem dX8_isBehind_98 : decode cX8_isBehind 98 = .ok (.getfield 66, 3) := by decide +kernel
theorem dX8_isBehind_101 : decode cX8_isBehind 101 = .ok (.iload_n 2, 1) := by decide +kernel
theorem dX8_isBehind_102 : decode cX8_isBehind 102 = .ok (.iaload, 1) := by decide +kernel
theorem dX8_isBehind_103 : decode cX8_isBehind 103 = .ok (.if_icmp .le 7, 3) := by decide +kernel
theorem dX8_isBehind_106 : decode cX8_isBehind 106 = .ok (.iconst 1, 1) := by decide +kernel
theorem dX8_isBehind_107 : decode cX8_isBehind 107 = .ok (.goto 27, 3) := by decide +kernel
theorem dX8_isBehind_110 : decode cX8_isBehind 110 = .ok (.iconst 0, 1) := by decide +kernel
theorem dX8_isBehind_111 : decode cX8_isBehind 111 = .ok (.goto 23, 3) := by decide +kernel
theorem dX8_isBehind_114 : decode cX8_isBehind 114 = .ok (.aload_n 0, 1) := by decide +kernel
theorem dX8_isBehind_115 : decode cX8_isBehind 115 = .ok (.getfield 72, 3) := by decide +kernel
theorem dX8_isBehind_118 : decode cX8_isBehind 118 = .ok (.iload_n 1, 1) := by decide +kernel
theorem dX8_isBehind_119 : decode cX8_isBehind 119 = .ok (.iaload, 1) := by decide +kernel
theorem dX8_isBehind_120 : decode cX8_isBehind 120 = .ok (.aload_n 0, 1) := by decide +kernel
theorem dX8_isBehind_121 : decode cX8_isBehind 121 = .ok (.getfield 72, 3) := by decide +kernel
theorem dX8_isBehind_124 : decode cX8_isBehind 124 = .ok (.iload_n 2, 1) := by decide +kernel
theorem dX8_isBehind_125 : decode cX8_isBehind 125 = .ok (.iaload, 1) := by decide +kernel
theorem dX8_isBehind_126 : decode cX8_isBehind 126 = .ok (.if_icmp .le 7, 3) := by decide +kernel
theorem dX8_isBehind_129 : decode cX8_isBehind 129 = .ok (.iconst 1, 1) := by decide +kernel
theorem dX8_isBehind_130 : decode cX8_isBehind 130 = .ok (.goto 4, 3) := by decide +kernel
theorem dX8_isBehind_133 : decode cX8_isBehind 133 = .ok (.iconst 0, 1) := by decide +kernel
theorem dX8_isBehind_134 : decode cX8_isBehind 134 = .ok (.ireturn, 1) := by decide +kernel
theorem dX8_exchanges_0 : decode cX8_exchanges 0 = .ok (.aload_n 0, 1) := by decide +kernel
theorem dX8_exchanges_1 : decode cX8_exchanges 1 = .ok (.getfield 60, 3) := by decide +kernel
theorem dX8_exchanges_4 : decode cX8_exchanges 4 = .ok (.iload_n 1, 1) := by decide +kernel
theorem dX8_exchanges_5 : decode cX8_exchanges 5 = .ok (.iaload, 1) := by decide +kernel
theorem dX8_exchanges_6 : decode cX8_exchanges 6 = .ok (.istore_n 3, 1) := by decide +kernel
theorem dX8_exchanges_7 : decode cX8_exchanges 7 = .ok (.aload_n 0, 1) := by decide +kernel
theorem dX8_exchanges_8 : decode cX8_exchanges 8 = .ok (.getfield 63, 3) := by decide +kernel
theorem dX8_exchanges_11 : decode cX8_exchanges 11 = .ok (.iload_n 1, 1) := by decide +kernel
theorem dX8_exchanges_12 : decode cX8_exchanges 12 = .ok (.iaload, 1) := by decide +kernel
theorem dX8_exchanges_13 : decode cX8_exchanges 13 = .ok (.istore 4, 2) := by decide +kernel
theorem dX8_exchanges_15 : decode cX8_exchanges 15 = .ok (.aload_n 0, 1) := by decide +kernel
theorem dX8_exchanges_16 : decode cX8_exchanges 16 = .ok (.getfield 66, 3) := by decide +kernel
theorem dX8_exchanges_19 : decode cX8_exchanges 19 = .ok (.iload_n 1, 1) := by decide +kernel
theorem dX8_exchanges_20 : decode cX8_exchanges 20 = .ok (.iaload, 1) := by decide +kernel
theorem dX8_exchanges_21 : decode cX8_exchanges 21 = .ok (.istore 5, 2) := by decide +kernel
theorem dX8_exchanges_23 : decode cX8_exchanges 23 = .ok (.aload_n 0, 1) := by decide +kernel
theorem dX8_exchanges_24 : decode cX8_exchanges 24 = .ok (.getfield 69, 3) := by decide +kernel
theorem dX8_exchanges_27 : decode cX8_exchanges 27 = .ok (.iload_n 1, 1) := by decide +kernel
theorem dX8_exchanges_28 : decode cX8_exchanges 28 = .ok (.iaload, 1) := by decide +kernel
theorem dX8_exchanges_29 : decode cX8_exchanges 29 = .ok (.istore 6, 2) := by decide +kernel
theorem dX8_exchanges_31 : decode cX8_exchanges 31 = .ok (.aload_n 0, 1) := by decide +kernel
theorem dX8_exchanges_32 : decode cX8_exchanges 32 = .ok (.getfield 72, 3) := by decide +kernel
theorem dX8_exchanges_35 : decode cX8_exchanges 35 = .ok (.iload_n 1, 1) := by decide +kernel
theorem dX8_exchanges_36 : decode cX8_exchanges 36 = .ok (.iaload, 1) := by decide +kernel
theorem dX8_exchanges_37 : decode cX8_exchanges 37 = .ok (.istore 7, 2) := by decide +kernel
theorem dX8_exchanges_39 : decode cX8_exchanges 39 = .ok (.aload_n 0, 1) := by decide +kernel
theorem dX8_exchanges_40 : decode cX8_exchanges 40 = .ok (.getfield 60, 3) := by decide +kernel
theorem dX8_exchanges_43 : decode cX8_exchanges 43 = .ok (.iload_n 1, 1) := by decide +kernel
theorem dX8_exchanges_44 : decode cX8_exchanges 44 = .ok (.aload_n 0, 1) := by decide +kernel
theorem dX8_exchanges_45 : decode cX8_exchanges 45 = .ok (.getfield 60, 3) := by decide +kernel
theorem dX8_exchanges_48 : decode cX8_exchanges 48 = .ok (.iload_n 2, 1) := by decide +kernel
theorem dX8_exchanges_49 : decode cX8_exchanges 49 = .ok (.iaload, 1) := by decide +kernel
theorem dX8_exchanges_50 : decode cX8_exchanges 50 = .ok (.iastore, 1) := by decide +kernel
theorem dX8_exchanges_51 : decode cX8_exchanges 51 = .ok (.aload_n 0, 1) := by decide +kernel
theorem dX8_exchanges_52 : decode cX8_exchanges 52 = .ok (.getfield 63, 3) := by decide +kernel
theorem dX8_exchanges_55 : decode cX8_exchanges 55 = .ok (.iload_n 1, 1) := by decide +kernel
theorem dX8_exchanges_56 : decode cX8_exchanges 56 = .ok (.aload_n 0, 1) := by decide +kernel
theorem dX8_exchanges_57 : decode cX8_exchanges 57 = .ok (.getfield 63, 3) := by decide +kernel
theorem dX8_exchanges_60 : decode cX8_exchanges 60 = .ok (.iload_n 2, 1) := by decide +kernel
theorem dX8_exchanges_61 : decode cX8_exchanges 61 = .ok (.iaload, 1) := by decide +kernel
theorem dX8_exchanges_62 : decode cX8_exchanges 62 = .ok (.iastore, 1) := by decide +kernel
theorem dX8_exchanges_63 : decode cX8_exchanges 63 = .ok (.aload_n 0, 1) := by decide +kernel
theorem dX8_exchanges_64 : decode cX8_exchanges 64 = .ok (.getfield 66, 3) := by decide +kernel
theorem dX8_exchanges_67 : decode cX8_exchanges 67 = .ok (.iload_n 1, 1) := by decide +kernel
theorem dX8_exchanges_68 : decode cX8_exchanges 68 = .ok (.aload_n 0, 1) := by decide +kernel
theorem dX8_exchanges_69 : decode cX8_exchanges 69 = .ok (.getfield 66, 3) := by decide +kernel
theorem dX8_exchanges_72 : decode cX8_exchanges 72 = .ok (.iload_n 2, 1) := by decide +kernel
theorem dX8_exchanges_73 : decode cX8_exchanges 73 = .ok (.iaload, 1) := by decide +kernel
theorem dX8_exchanges_74 : decode cX8_exchanges 74 = .ok (.iastore, 1) := by decide +kernel
theorem dX8_exchanges_75 : decode cX8_exchanges 75 = .ok (.aload_n 0, 1) := by decide +kernel
theorem dX8_exchanges_76 : decode cX8_exchanges 76 = .ok (.getfield 69, 3) := by decide +kernel
theorem dX8_exchanges_79 : decode cX8_exchanges 79 = .ok (.iload_n 1, 1) := by decide +kernel
theorem dX8_exchanges_80 : decode cX8_exchanges 80 = .ok (.aload_n 0, 1) := by decide +kernel
theorem dX8_exchanges_81 : decode cX8_exchanges 81 = .ok (.getfield 69, 3) := by decide +kernel
theorem dX8_exchanges_84 : decode cX8_exchanges 84 = .ok (.iload_n 2, 1) := by decide +kernel
theorem dX8_exchanges_85 : decode cX8_exchanges 85 = .ok (.iaload, 1) := by decide +kernel
theorem dX8_exchanges_86 : decode cX8_exchanges 86 = .ok (.iastore, 1) := by decide +kernel
theorem dX8_exchanges_87 : decode cX8_exchanges 87 = .ok (.aload_n 0, 1) := by decide +kernel
theorem dX8_exchanges_88 : decode cX8_exchanges 88 = .ok (.getfield 72, 3) := by decide +kernel
theorem dX8_exchanges_91 : decode cX8_exchanges 91 = .ok (.iload_n 1, 1) := by decide +kernel
theorem dX8_exchanges_92 : decode cX8_exchanges 92 = .ok (.aload_n 0, 1) := by decide +kernel
theorem dX8_exchanges_93 : decode cX8_exchanges 93 = .ok (.getfield 72, 3) := by decide +kernel
theorem dX8_exchanges_96 : decode cX8_exchanges 96 = .ok (.iload_n 2, 1) := by decide +kernel
theorem dX8_exchanges_97 : decode cX8_exchanges 97 = .ok (.iaload, 1) := by decide +kernel
theorem dX8_exchanges_98 : decode cX8_exchanges 98 = .ok (.iastore, 1) := by decide +kernel
theorem dX8_exchanges_99 : decode cX8_exchanges 99 = .ok (.aload_n 0, 1) := by decide +kernel
theorem dX8_exchanges_100 : decode cX8_exchanges 100 = .ok (.getfield 60, 3) := by decide +kernel
theorem dX8_exchanges_103 : decode cX8_exchanges 103 = .ok (.iload_n 2, 1) := by decide +kernel
theorem dX8_exchanges_104 : decode cX8_exchanges 104 = .ok (.iload_n 3, 1) := by decide +kernel
theorem dX8_exchanges_105 : decode cX8_exchanges 105 = .ok (.iastore, 1) := by decide +kernel
theorem dX8_exchanges_106 : decode cX8_exchanges 106 = .ok (.aload_n 0, 1) := by decide +kernel
theorem dX8_exchanges_107 : decode cX8_exchanges 107 = .ok (.getfield 63, 3) := by decide +kernel
theorem dX8_exchanges_110 : decode cX8_exchanges 110 = .ok (.iload_n 2, 1) := by decide +kernel
theorem dX8_exchanges_111 : decode cX8_exchanges 111 = .ok (.iload 4, 2) := by decide +kernel
theorem dX8_exchanges_113 : decode cX8_exchanges 113 = .ok (.iastore, 1) := by decide +kernel
theorem dX8_exchanges_114 : decode cX8_exchanges 114 = .ok (.aload_n 0, 1) := by decide +kernel
theorem dX8_exchanges_115 : decode cX8_exchanges 115 = .ok (.getfield 66, 3) := by decide +kernel
theorem dX8_exchanges_118 : decode cX8_exchanges 118 = .ok (.iload_n 2, 1) := by decide +kernel
theorem dX8_exchanges_119 : decode cX8_exchanges 119 = .ok (.iload 5, 2) := by decide +kernel
theorem dX8_exchanges_121 : decode cX8_exchanges 121 = .ok (.iastore, 1) := by decide +kernel
theorem dX8_exchanges_122 : decode cX8_exchanges 122 = .ok (.aload_n 0, 1) := by decide +kernel
theorem dX8_exchanges_123 : decode cX8_exchanges 123 = .ok (.getfield 69, 3) := by decide +kernel
theorem dX8_exchanges_126 : decode cX8_exchanges 126 = .ok (.iload_n 2, 1) := by decide +kernel
theorem dX8_exchanges_127 : decode cX8_exchanges 127 = .ok (.iload 6, 2) := by decide +kernel
theorem dX8_exchanges_129 : decode cX8_exchanges 129 = .ok (.iastore, 1) := by decide +kernel
theorem dX8_exchanges_130 : decode cX8_exchanges 130 = .ok (.aload_n 0, 1) := by decide +kernel
theorem dX8_exchanges_131 : decode cX8_exchanges 131 = .ok (.getfield 72, 3) := by decide +kernel
theorem dX8_exchanges_134 : decode cX8_exchanges 134 = .ok (.iload_n 2, 1) := by decide +kernel
theorem dX8_exchanges_135 : decode cX8_exchanges 135 = .ok (.iload 7, 2) := by decide +kernel
theorem dX8_exchanges_137 : decode cX8_exchanges 137 = .ok (.iastore, 1) := by decide +kernel
theorem dX8_exchanges_138 : decode cX8_exchanges 138 = .ok (.return_, 1) := by decide +kernel
set_option maxRecDepth 20000 in
theorem ggX8_keeps_X8_isBehind : GoodIn wsX8_keeps wsX8_isBehind := goodIn_g _ [(22, 1), (9, 1), (11, 1), (13, 1), (17, 1), (27, 47)] (by exact rfl) (by decide +kernel)
set_option maxRecDepth 20000 in
theorem gX8_keeps_X8_isBehind : GoodIn wsX8_keeps (wsV RX8 172 RX8 yX8_isBehind wsX8_isBehind) := goodIn_app (goodIn_of _ (by decide +kernel)) ggX8_keeps_X8_isBehind
set_option maxRecDepth 20000 in
theorem ggX8_keeps_X8_exchanges : GoodIn wsX8_keeps wsX8_exchanges := goodIn_g _ [(26, 1), (9, 1), (11, 1), (13, 1), (15, 1), (17, 1), (27, 47)] (by exact rfl) (by decide +kernel)
set_option maxRecDepth 20000 in
theorem gX8_keeps_X8_exchanges : GoodIn wsX8_keeps (wsV RX8 176 RX8 yX8_exchanges wsX8_exchanges) := goodIn_app (goodIn_of _ (by decide +kernel)) ggX8_keeps_X8_exchanges
theorem dX8_keeps_0 : decode cX8_keeps 0 = .ok (.iconst 1, 1) := by decide +kernel
theorem dX8_keeps_1 : decode cX8_keeps 1 = .ok (.istore_n 1, 1) := by decide +kernel
theorem dX8_keeps_2 : decode cX8_keeps 2 = .ok (.iload_n 1, 1) := by decide +kernel
theorem dX8_keeps_3 : decode cX8_keeps 3 = .ok (.aload_n 0, 1) := by decide +kernel
theorem dX8_keeps_4 : decode cX8_keeps 4 = .ok (.getfield 159, 3) := by decide +kernel
theorem dX8_keeps_7 : decode cX8_keeps 7 = .ok (.if_icmp .ge 40, 3) := by decide +kernel
theorem dX8_keeps_10 : decode cX8_keeps 10 = .ok (.iload_n 1, 1) := by decide +kernel
theorem dX8_keeps_11 : decode cX8_keeps 11 = .ok (.istore_n 2, 1) := by decide +kernel
theorem dX8_keeps_12 : decode cX8_keeps 12 = .ok (.iload_n 2, 1) := by decide +kernel
theorem dX8_keeps_13 : decode cX8_keeps 13 = .ok (.ifCond .le 28, 3) := by decide +kernel
theorem dX8_keeps_16 : decode cX8_keeps 16 = .ok (.aload_n 0, 1) := by decide +kernel
theorem dX8_keeps_17 : decode cX8_keeps 17 = .ok (.iload_n 2, 1) := by decide +kernel
theorem dX8_keeps_18 : decode cX8_keeps 18 = .ok (.iconst 1, 1) := by decide +kernel
theorem dX8_keeps_19 : decode cX8_keeps 19 = .ok (.isub, 1) := by decide +kernel
theorem dX8_keeps_20 : decode cX8_keeps 20 = .ok (.iload_n 2, 1) := by decide +kernel
theorem dX8_keeps_21 : decode cX8_keeps 21 = .ok (.invokevirtual 172, 3) := by decide +kernel
theorem dX8_keeps_24 : decode cX8_keeps 24 = .ok (.ifCond .eq 17, 3) := by decide +kernel
theorem dX8_keeps_27 : decode cX8_keeps 27 = .ok (.aload_n 0, 1) := by decide +kernel
theorem dX8_keeps_28 : decode cX8_keeps 28 = .ok (.iload_n 2, 1) := by decide +kernel
theorem dX8_keeps_29 : decode cX8_keeps 29 = .ok (.iconst 1, 1) := by decide +kernel
theorem dX8_keeps_30 : decode cX8_keeps 30 = .ok (.isub, 1) := by decide +kernel
theorem dX8_keeps_31 : decode cX8_keeps 31 = .ok (.iload_n 2, 1) := by decide +kernel
theorem dX8_keeps_32 : decode cX8_keeps 32 = .ok (.invokevirtual 176, 3) := by decide +kernel
theorem dX8_keeps_35 : decode cX8_keeps 35 = .ok (.iinc 2 (-1), 3) := by decide +kernel
theorem dX8_keeps_38 : decode cX8_keeps 38 = .ok (.goto (-26), 3) := by decide +kernel
theorem dX8_keeps_41 : decode cX8_keeps 41 = .ok (.iinc 1 1, 3) := by decide +kernel
theorem dX8_keeps_44 : decode cX8_keeps 44 = .ok (.goto (-42), 3) := by decide +kernel
theorem dX8_keeps_47 : decode cX8_keeps 47 = .ok (.aload_n 0, 1) := by decide +kernel
theorem dX8_keeps_48 : decode cX8_keeps 48 = .ok (.getfield 128, 3) := by decide +kernel
theorem dX8_keeps_51 : decode cX8_keeps 51 = .ok (.istore_n 1, 1) := by decide +kernel
theorem dX8_keeps_52 : decode cX8_keeps 52 = .ok (.aload_n 0, 1) := by decide +kernel
theorem dX8_keeps_53 : decode cX8_keeps 53 = .ok (.getfield 13, 3) := by decide +kernel
theorem dX8_keeps_56 : decode cX8_keeps 56 = .ok (.iload_n 1, 1) := by decide +kernel
theorem dX8_keeps_57 : decode cX8_keeps 57 = .ok (.aload_n 0, 1) := by decide +kernel
theorem dX8_keeps_58 : decode cX8_keeps 58 = .ok (.getfield 152, 3) := by decide +kernel
theorem dX8_keeps_61 : decode cX8_keeps 61 = .ok (.iastore, 1) := by decide +kernel
theorem dX8_keeps_62 : decode cX8_keeps 62 = .ok (.aload_n 0, 1) := by decide +kernel
theorem dX8_keeps_63 : decode cX8_keeps 63 = .ok (.getfield 16, 3) := by decide +kernel
theorem dX8_keeps_66 : decode cX8_keeps 66 = .ok (.iload_n 1, 1) := by decide +kernel
theorem dX8_keeps_67 : decode cX8_keeps 67 = .ok (.aload_n 0, 1) := by decide +kernel
theorem dX8_keeps_68 : decode cX8_keeps 68 = .ok (.getfield 169, 3) := by decide +kernel
theorem dX8_keeps_71 : decode cX8_keeps 71 = .ok (.iastore, 1) := by decide +kernel
theorem dX8_keeps_72 : decode cX8_keeps 72 = .ok (.aload_n 0, 1) := by decide +kernel
theorem dX8_keeps_73 : decode cX8_keeps 73 = .ok (.getfield 19, 3) := by decide +kernel
theorem dX8_keeps_76 : decode cX8_keeps 76 = .ok (.iload_n 1, 1) := by decide +kernel
theorem dX8_keeps_77 : decode cX8_keeps 77 = .ok (.aload_n 0, 1) := by decide +kernel
theorem dX8_keeps_78 : decode cX8_keeps 78 = .ok (.getfield 159, 3) := by decide +kernel
theorem dX8_keeps_81 : decode cX8_keeps 81 = .ok (.iastore, 1) := by decide +kernel
theorem dX8_keeps_82 : decode cX8_keeps 82 = .ok (.iconst 0, 1) := by decide +kernel
theorem dX8_keeps_83 : decode cX8_keeps 83 = .ok (.istore_n 2, 1) := by decide +kernel
theorem dX8_keeps_84 : decode cX8_keeps 84 = .ok (.iload_n 2, 1) := by decide +kernel
theorem dX8_keeps_85 : decode cX8_keeps 85 = .ok (.aload_n 0, 1) := by decide +kernel
theorem dX8_keeps_86 : decode cX8_keeps 86 = .ok (.getfield 159, 3) := by decide +kernel
theorem dX8_keeps_89 : decode cX8_keeps 89 = .ok (.if_icmp .ge 99, 3) := by decide +kernel
theorem dX8_keeps_92 : decode cX8_keeps 92 = .ok (.aload_n 0, 1) := by decide +kernel
theorem dX8_keeps_93 : decode cX8_keeps 93 = .ok (.getfield 22, 3) := by decide +kernel
theorem dX8_keeps_96 : decode cX8_keeps 96 = .ok (.sipush 160, 3) := by decide +kernel
theorem dX8_keeps_99 : decode cX8_keeps 99 = .ok (.iload_n 1, 1) := by decide +kernel
theorem dX8_keeps_100 : decode cX8_keeps 100 = .ok (.imul, 1) := by decide +kernel
theorem dX8_keeps_101 : decode cX8_keeps 101 = .ok (.iload_n 2, 1) := by decide +kernel
theorem dX8_keeps_102 : decode cX8_keeps 102 = .ok (.iadd, 1) := by decide +kernel
theorem dX8_keeps_103 : decode cX8_keeps 103 = .ok (.aload_n 0, 1) := by decide +kernel
theorem dX8_keeps_104 : decode cX8_keeps 104 = .ok (.getfield 60, 3) := by decide +kernel
theorem dX8_keeps_107 : decode cX8_keeps 107 = .ok (.iload_n 2, 1) := by decide +kernel
theorem dX8_keeps_108 : decode cX8_keeps 108 = .ok (.iaload, 1) := by decide +kernel
theorem dX8_keeps_109 : decode cX8_keeps 109 = .ok (.iastore, 1) := by decide +kernel
theorem dX8_keeps_110 : decode cX8_keeps 110 = .ok (.aload_n 0, 1) := by decide +kernel
theorem dX8_keeps_111 : decode cX8_keeps 111 = .ok (.getfield 25, 3) := by decide +kernel
theorem dX8_keeps_114 : decode cX8_keeps 114 = .ok (.sipush 160, 3) := by decide +kernel
theorem dX8_keeps_117 : decode cX8_keeps 117 = .ok (.iload_n 1, 1) := by decide +kernel
theorem dX8_keeps_118 : decode cX8_keeps 118 = .ok (.imul, 1) := by decide +kernel
theorem dX8_keeps_119 : decode cX8_keeps 119 = .ok (.iload_n 2, 1) := by decide +kernel
theorem dX8_keeps_120 : decode cX8_keeps 120 = .ok (.iadd, 1) := by decide +kernel
theorem dX8_keeps_121 : decode cX8_keeps 121 = .ok (.aload_n 0, 1) := by decide +kernel
theorem dX8_keeps_122 : decode cX8_keeps 122 = .ok (.getfield 63, 3) := by decide +kernel
theorem dX8_keeps_125 : decode cX8_keeps 125 = .ok (.iload_n 2, 1) := by decide +kernel
theorem dX8_keeps_126 : decode cX8_keeps 126 = .ok (.iaload, 1) := by decide +kernel
theorem dX8_keeps_127 : decode cX8_keeps 127 = .ok (.iastore, 1) := by decide +kernel
theorem dX8_keeps_128 : decode cX8_keeps 128 = .ok (.aload_n 0, 1) := by decide +kernel
theorem dX8_keeps_129 : decode cX8_keeps 129 = .ok (.getfield 28, 3) := by decide +kernel
theorem dX8_keeps_132 : decode cX8_keeps 132 = .ok (.sipush 160, 3) := by decide +kernel
theorem dX8_keeps_135 : decode cX8_keeps 135 = .ok (.iload_n 1, 1) := by decide +kernel
theorem dX8_keeps_136 : decode cX8_keeps 136 = .ok (.imul, 1) := by decide +kernel
theorem dX8_keeps_137 : decode cX8_keeps 137 = .ok (.iload_n 2, 1) := by decide +kernel
theorem dX8_keeps_138 : decode cX8_keeps 138 = .ok (.iadd, 1) := by decide +kernel
theorem dX8_keeps_139 : decode cX8_keeps 139 = .ok (.aload_n 0, 1) := by decide +kernel
theorem dX8_keeps_140 : decode cX8_keeps 140 = .ok (.getfield 66, 3) := by decide +kernel
theorem dX8_keeps_143 : decode cX8_keeps 143 = .ok (.iload_n 2, 1) := by decide +kernel
theorem dX8_keeps_144 : decode cX8_keeps 144 = .ok (.iaload, 1) := by decide +kernel
theorem dX8_keeps_145 : decode cX8_keeps 145 = .ok (.iastore, 1) := by decide +kernel
theorem dX8_keeps_146 : decode cX8_keeps 146 = .ok (.aload_n 0, 1) := by decide +kernel
theorem dX8_keeps_147 : decode cX8_keeps 147 = .ok (.getfield 31, 3) := by decide +kernel
theorem dX8_keeps_150 : decode cX8_keeps 150 = .ok (.sipush 160, 3) := by decide +kernel
theorem dX8_keeps_153 : decode cX8_keeps 153 = .ok (.iload_n 1, 1) := by decide +kernel
theorem dX8_keeps_154 : decode cX8_keeps 154 = .ok (.imul, 1) := by decide +kernel
theorem dX8_keeps_155 : decode cX8_keeps 155 = .ok (.iload_n 2, 1) := by decide +kernel
theorem dX8_keeps_156 : decode cX8_keeps 156 = .ok (.iadd, 1) := by decide +kernel
theorem dX8_keeps_157 : decode cX8_keeps 157 = .ok (.aload_n 0, 1) := by decide +kernel
theorem dX8_keeps_158 : decode cX8_keeps 158 = .ok (.getfield 69, 3) := by decide +kernel
theorem dX8_keeps_161 : decode cX8_keeps 161 = .ok (.iload_n 2, 1) := by decide +kernel
theorem dX8_keeps_162 : decode cX8_keeps 162 = .ok (.iaload, 1) := by decide +kernel
theorem dX8_keeps_163 : decode cX8_keeps 163 = .ok (.iastore, 1) := by decide +kernel
theorem dX8_keeps_164 : decode cX8_keeps 164 = .ok (.aload_n 0, 1) := by decide +kernel
theorem dX8_keeps_165 : decode cX8_keeps 165 = .ok (.getfield 34, 3) := by decide +kernel
theorem dX8_keeps_168 : decode cX8_keeps 168 = .ok (.sipush 160, 3) := by decide +kernel
theorem dX8_keeps_171 : decode cX8_keeps 171 = .ok (.iload_n 1, 1) := by decide +kernel
theorem dX8_keeps_172 : decode cX8_keeps 172 = .ok (.imul, 1) := by decide +kernel
theorem dX8_keeps_173 : decode cX8_keeps 173 = .ok (.iload_n 2, 1) := by decide +kernel
theorem dX8_keeps_174 : decode cX8_keeps 174 = .ok (.iadd, 1) := by decide +kernel
theorem dX8_keeps_175 : decode cX8_keeps 175 = .ok (.aload_n 0, 1) := by decide +kernel
theorem dX8_keeps_176 : decode cX8_keeps 176 = .ok (.getfield 72, 3) := by decide +kernel
theorem dX8_keeps_179 : decode cX8_keeps 179 = .ok (.iload_n 2, 1) := by decide +kernel
theorem dX8_keeps_180 : decode cX8_keeps 180 = .ok (.iaload, 1) := by decide +kernel
theorem dX8_keeps_181 : decode cX8_keeps 181 = .ok (.iastore, 1) := by decide +kernel
theorem dX8_keeps_182 : decode cX8_keeps 182 = .ok (.iinc 2 1, 3) := by decide +kernel
theorem dX8_keeps_185 : decode cX8_keeps 185 = .ok (.goto (-101), 3) := by decide +kernel
theorem dX8_keeps_188 : decode cX8_keeps 188 = .ok (.aload_n 0, 1) := by decide +kernel
theorem dX8_keeps_189 : decode cX8_keeps 189 = .ok (.dup, 1) := by decide +kernel
theorem dX8_keeps_190 : decode cX8_keeps 190 = .ok (.getfield 128, 3) := by decide +kernel
theorem dX8_keeps_193 : decode cX8_keeps 193 = .ok (.iconst 1, 1) := by decide +kernel
theorem dX8_keeps_194 : decode cX8_keeps 194 = .ok (.iadd, 1) := by decide +kernel
theorem dX8_keeps_195 : decode cX8_keeps 195 = .ok (.putfield 128, 3) := by decide +kernel
theorem dX8_keeps_198 : decode cX8_keeps 198 = .ok (.iload_n 1, 1) := by decide +kernel
theorem dX8_keeps_199 : decode cX8_keeps 199 = .ok (.ireturn, 1) := by decide +kernel
theorem dX8_isThere_0 : decode cX8_isThere 0 = .ok (.aload_n 0, 1) := by decide +kernel
theorem dX8_isThere_1 : decode cX8_isThere 1 = .ok (.getfield 128, 3) := by decide +kernel
theorem dX8_isThere_4 : decode cX8_isThere 4 = .ok (.bipush 24, 2) := by decide +kernel
theorem dX8_isThere_6 : decode cX8_isThere 6 = .ok (.if_icmp .ge 7, 3) := by decide +kernel
theorem dX8_isThere_9 : decode cX8_isThere 9 = .ok (.iconst 1, 1) := by decide +kernel
theorem dX8_isThere_10 : decode cX8_isThere 10 = .ok (.goto 4, 3) := by decide +kernel
theorem dX8_isThere_13 : decode cX8_isThere 13 = .ok (.iconst 0, 1) := by decide +kernel
theorem dX8_isThere_14 : decode cX8_isThere 14 = .ok (.ireturn, 1) := by decide +kernel
theorem dX8_isEndOf_0 : decode cX8_isEndOf 0 = .ok (.aload_n 0, 1) := by decide +kernel
theorem dX8_isEndOf_1 : decode cX8_isEndOf 1 = .ok (.getfield 16, 3) := by decide +kernel
theorem dX8_isEndOf_4 : decode cX8_isEndOf 4 = .ok (.iload_n 1, 1) := by decide +kernel
theorem dX8_isEndOf_5 : decode cX8_isEndOf 5 = .ok (.iaload, 1) := by decide +kernel
theorem dX8_isEndOf_6 : decode cX8_isEndOf 6 = .ok (.iload_n 2, 1) := by decide +kernel
theorem dX8_isEndOf_7 : decode cX8_isEndOf 7 = .ok (.ishr, 1) := by decide +kernel
theorem dX8_isEndOf_8 : decode cX8_isEndOf 8 = .ok (.iconst 1, 1) := by decide +kernel
theorem dX8_isEndOf_9 : decode cX8_isEndOf 9 = .ok (.iand, 1) := by decide +kernel
theorem dX8_isEndOf_10 : decode cX8_isEndOf 10 = .ok (.iconst 1, 1) := by decide +kernel
theorem dX8_isEndOf_11 : decode cX8_isEndOf 11 = .ok (.if_icmp .ne 7, 3) := by decide +kernel
theorem dX8_isEndOf_14 : decode cX8_isEndOf 14 = .ok (.iconst 1, 1) := by decide +kernel
theorem dX8_isEndOf_15 : decode cX8_isEndOf 15 = .ok (.goto 4, 3) := by decide +kernel
theorem dX8_isEndOf_18 : decode cX8_isEndOf 18 = .ok (.iconst 0, 1) := by decide +kernel
theorem dX8_isEndOf_19 : decode cX8_isEndOf 19 = .ok (.ireturn, 1) := by decide +kernel
set_option maxRecDepth 20000 in
theorem ggX8_puts_X8_adds : GoodIn wsX8_puts wsX8_adds := goodIn_g _ [(11, 51)] (by exact rfl) (by decide +kernel)
set_option maxRecDepth 20000 in
theorem gX8_puts_X8_adds : GoodIn wsX8_puts (wsV RX8 180 RX8 yX8_adds wsX8_adds) := goodIn_app (goodIn_of _ (by decide +kernel)) ggX8_puts_X8_adds
theorem dX8_puts_0 : decode cX8_puts 0 = .ok (.sipush 160, 3) := by decide +kernel
theorem dX8_puts_3 : decode cX8_puts 3 = .ok (.iload_n 1, 1) := by decide +kernel
theorem dX8_puts_4 : decode cX8_puts 4 = .ok (.imul, 1) := by decide +kernel
theorem dX8_puts_5 : decode cX8_puts 5 = .ok (.istore_n 3, 1) := by decide +kernel
theorem dX8_puts_6 : decode cX8_puts 6 = .ok (.iload_n 3, 1) := by decide +kernel
theorem dX8_puts_7 : decode cX8_puts 7 = .ok (.sipush 160, 3) := by decide +kernel
theorem dX8_puts_10 : decode cX8_puts 10 = .ok (.iload_n 1, 1) := by decide +kernel
theorem dX8_puts_11 : decode cX8_puts 11 = .ok (.imul, 1) := by decide +kernel
theorem dX8_puts_12 : decode cX8_puts 12 = .ok (.aload_n 0, 1) := by decide +kernel
theorem dX8_puts_13 : decode cX8_puts 13 = .ok (.getfield 19, 3) := by decide +kernel
theorem dX8_puts_16 : decode cX8_puts 16 = .ok (.iload_n 1, 1) := by decide +kernel
theorem dX8_puts_17 : decode cX8_puts 17 = .ok (.iaload, 1) := by decide +kernel
theorem dX8_puts_18 : decode cX8_puts 18 = .ok (.iadd, 1) := by decide +kernel
theorem dX8_puts_19 : decode cX8_puts 19 = .ok (.if_icmp .ge 47, 3) := by decide +kernel
theorem dX8_puts_22 : decode cX8_puts 22 = .ok (.aload_n 0, 1) := by decide +kernel
theorem dX8_puts_23 : decode cX8_puts 23 = .ok (.iload_n 2, 1) := by decide +kernel
theorem dX8_puts_24 : decode cX8_puts 24 = .ok (.aload_n 0, 1) := by decide +kernel
theorem dX8_puts_25 : decode cX8_puts 25 = .ok (.getfield 22, 3) := by decide +kernel
theorem dX8_puts_28 : decode cX8_puts 28 = .ok (.iload_n 3, 1) := by decide +kernel
theorem dX8_puts_29 : decode cX8_puts 29 = .ok (.iaload, 1) := by decide +kernel
theorem dX8_puts_30 : decode cX8_puts 30 = .ok (.iadd, 1) := by decide +kernel
theorem dX8_puts_31 : decode cX8_puts 31 = .ok (.aload_n 0, 1) := by decide +kernel
theorem dX8_puts_32 : decode cX8_puts 32 = .ok (.getfield 25, 3) := by decide +kernel
theorem dX8_puts_35 : decode cX8_puts 35 = .ok (.iload_n 3, 1) := by decide +kernel
theorem dX8_puts_36 : decode cX8_puts 36 = .ok (.iaload, 1) := by decide +kernel
theorem dX8_puts_37 : decode cX8_puts 37 = .ok (.aload_n 0, 1) := by decide +kernel
theorem dX8_puts_38 : decode cX8_puts 38 = .ok (.getfield 28, 3) := by decide +kernel
theorem dX8_puts_41 : decode cX8_puts 41 = .ok (.iload_n 3, 1) := by decide +kernel
theorem dX8_puts_42 : decode cX8_puts 42 = .ok (.iaload, 1) := by decide +kernel
theorem dX8_puts_43 : decode cX8_puts 43 = .ok (.aload_n 0, 1) := by decide +kernel
theorem dX8_puts_44 : decode cX8_puts 44 = .ok (.getfield 31, 3) := by decide +kernel
theorem dX8_puts_47 : decode cX8_puts 47 = .ok (.iload_n 3, 1) := by decide +kernel
theorem dX8_puts_48 : decode cX8_puts 48 = .ok (.iaload, 1) := by decide +kernel
theorem dX8_puts_49 : decode cX8_puts 49 = .ok (.iload_n 2, 1) := by decide +kernel
theorem dX8_puts_50 : decode cX8_puts 50 = .ok (.aload_n 0, 1) := by decide +kernel
theorem dX8_puts_51 : decode cX8_puts 51 = .ok (.getfield 34, 3) := by decide +kernel
theorem dX8_puts_54 : decode cX8_puts 54 = .ok (.iload_n 3, 1) := by decide +kernel
theorem dX8_puts_55 : decode cX8_puts 55 = .ok (.iaload, 1) := by decide +kernel
theorem dX8_puts_56 : decode cX8_puts 56 = .ok (.iadd, 1) := by decide +kernel
theorem dX8_puts_57 : decode cX8_puts 57 = .ok (.invokevirtual 180, 3) := by decide +kernel
theorem dX8_puts_60 : decode cX8_puts 60 = .ok (.iinc 3 1, 3) := by decide +kernel
theorem dX8_puts_63 : decode cX8_puts 63 = .ok (.goto (-57), 3) := by decide +kernel
theorem dX8_puts_66 : decode cX8_puts 66 = .ok (.return_, 1) := by decide +kernel
set_option maxRecDepth 20000 in
theorem ggX8_pair_X8_isIn : GoodIn wsX8_pair wsX8_isIn := goodIn_g _ [(5, 1)] (by exact rfl) (by decide +kernel)
set_option maxRecDepth 20000 in
theorem gX8_pair_X8_isIn : GoodIn wsX8_pair (va_wsS RX8 131 yX8_isIn wsX8_isIn) := goodIn_app (goodIn_of _ (by decide +kernel)) ggX8_pair_X8_isIn
set_option maxRecDepth 20000 in
theorem ggX8_pair_X8_isThere : GoodIn wsX8_pair wsX8_isThere := goodIn_g _ [(9, 2), (81, 47)] (by exact rfl) (by decide +kernel)
set_option maxRecDepth 20000 in
theorem gX8_pair_X8_isThere : GoodIn wsX8_pair (wsV RX8 184 RX8 yX8_isThere wsX8_isThere) := goodIn_app (goodIn_of _ (by decide +kernel)) ggX8_pair_X8_isThere
set_option maxRecDepth 20000 in
theorem ggX8_pair_X8_isFine : GoodIn wsX8_pair wsX8_isFine := goodIn_g _ [(14, 2), (81, 47)] (by exact rfl) (by decide +kernel)
set_option maxRecDepth 20000 in
theorem gX8_pair_X8_isFine : GoodIn wsX8_pair (wsV RX8 138 RX8 yX8_isFine wsX8_isFine) := goodIn_app (goodIn_of _ (by decide +kernel)) ggX8_pair_X8_isFine
set_option maxRecDepth 20000 in
theorem ggX8_pair_X8_begins : GoodIn wsX8_pair wsX8_begins := goodIn_g _ [(19, 2), (1, 1), (81, 47)] (by exact rfl) (by decide +kernel)
set_option maxRecDepth 20000 in
theorem gX8_pair_X8_begins : GoodIn wsX8_pair (wsV RX8 188 RX8 yX8_begins wsX8_begins) := goodIn_app (goodIn_of _ (by decide +kernel)) ggX8_pair_X8_begins
set_option maxRecDepth 20000 in
theorem ggX8_pair_X8_adds : GoodIn wsX8_pair wsX8_adds := goodIn_g _ [(24, 2), (20, 1), (26, 1), (81, 47)] (by exact rfl) (by decide +kernel)
set_option maxRecDepth 20000 in
theorem gX8_pair_X8_adds : GoodIn wsX8_pair (wsV RX8 180 RX8 yX8_adds wsX8_adds) := goodIn_app (goodIn_of _ (by decide +kernel)) ggX8_pair_X8_adds
set_option maxRecDepth 20000 in
theorem ggX8_pair_X8_trims : GoodIn wsX8_pair wsX8_trims := goodIn_g _ [(30, 6), (25, 1), (36, 4), (26, 1), (40, 2), (1, 1), (42, 3), (4, 1), (45, 2), (20, 1), (47, 14), (81, 47)] (by exact rfl) (by decide +kernel)
set_option maxRecDepth 20000 in
theorem gX8_pair_X8_trims : GoodIn wsX8_pair (wsV RX8 191 RX8 yX8_trims wsX8_trims) := goodIn_app (goodIn_of _ (by decide +kernel)) ggX8_pair_X8_trims
set_option maxRecDepth 20000 in
theorem ggX8_pair_X8_keeps : GoodIn wsX8_pair wsX8_keeps := goodIn_g _ [(64, 1), (33, 1), (10, 1), (65, 1), (32, 1), (66, 1), (41, 1), (67, 2), (36, 1), (69, 1), (37, 1), (70, 1), (38, 1), (71, 1), (39, 1), (72, 1), (40, 1), (73, 3), (4, 1), (76, 52)] (by exact rfl) (by decide +kernel)
set_option maxRecDepth 20000 in
theorem gX8_pair_X8_keeps : GoodIn wsX8_pair (wsV RX8 194 RX8 yX8_keeps wsX8_keeps) := goodIn_app (goodIn_of _ (by decide +kernel)) ggX8_pair_X8_keeps
theorem dX8_pair_0 : decode cX8_pair 0 = .ok (.iload_n 1, 1) := by decide +kernel
theorem dX8_pair_1 : decode cX8_pair 1 = .ok (.iconst 0, 1) := by decide +kernel
theorem dX8_pair_2 : decode cX8_pair 2 = .ok (.bipush 8, 2) := by decide +kernel
theorem dX8_pair_4 : decode cX8_pair 4 = .ok (.invokestatic 131, 3) := by decide +kernel
theorem dX8_pair_7 : decode cX8_pair 7 = .ok (.ifCond .eq 27, 3) := by decide +kernel
theorem dX8_pair_10 : decode cX8_pair 10 = .ok (.iload_n 2, 1) := by decide +kernel
theorem dX8_pair_11 : decode cX8_pair 11 = .ok (.iconst 0, 1) := by decide +kernel
theorem dX8_pair_12 : decode cX8_pair 12 = .ok (.bipush 8, 2) := by decide +kernel
theorem dX8_pair_14 : decode cX8_pair 14 = .ok (.invokestatic 131, 3) := by decide +kernel
theorem dX8_pair_17 : decode cX8_pair 17 = .ok (.ifCond .eq 17, 3) := by decide +kernel
theorem dX8_pair_20 : decode cX8_pair 20 = .ok (.iload_n 3, 1) := by decide +kernel
theorem dX8_pair_21 : decode cX8_pair 21 = .ok (.iconst 0, 1) := by decide +kernel
theorem dX8_pair_22 : decode cX8_pair 22 = .ok (.bipush 100, 2) := by decide +kernel
theorem dX8_pair_24 : decode cX8_pair 24 = .ok (.invokestatic 131, 3) := by decide +kernel
theorem dX8_pair_27 : decode cX8_pair 27 = .ok (.ifCond .eq 7, 3) := by decide +kernel
theorem dX8_pair_30 : decode cX8_pair 30 = .ok (.iconst 1, 1) := by decide +kernel
theorem dX8_pair_31 : decode cX8_pair 31 = .ok (.goto 4, 3) := by decide +kernel
theorem dX8_pair_34 : decode cX8_pair 34 = .ok (.iconst 0, 1) := by decide +kernel
theorem dX8_pair_35 : decode cX8_pair 35 = .ok (.istore 4, 2) := by decide +kernel
theorem dX8_pair_37 : decode cX8_pair 37 = .ok (.aload_n 0, 1) := by decide +kernel
theorem dX8_pair_38 : decode cX8_pair 38 = .ok (.iload 4, 2) := by decide +kernel
theorem dX8_pair_40 : decode cX8_pair 40 = .ok (.ifCond .ne 7, 3) := by decide +kernel
theorem dX8_pair_43 : decode cX8_pair 43 = .ok (.iconst 1, 1) := by decide +kernel
theorem dX8_pair_44 : decode cX8_pair 44 = .ok (.goto 15, 3) := by decide +kernel
theorem dX8_pair_47 : decode cX8_pair 47 = .ok (.aload_n 0, 1) := by decide +kernel
theorem dX8_pair_48 : decode cX8_pair 48 = .ok (.invokevirtual 184, 3) := by decide +kernel
theorem dX8_pair_51 : decode cX8_pair 51 = .ok (.ifCond .ne 7, 3) := by decide +kernel
theorem dX8_pair_54 : decode cX8_pair 54 = .ok (.iconst 2, 1) := by decide +kernel
theorem dX8_pair_55 : decode cX8_pair 55 = .ok (.goto 4, 3) := by decide +kernel
theorem dX8_pair_58 : decode cX8_pair 58 = .ok (.iconst 0, 1) := by decide +kernel
theorem dX8_pair_59 : decode cX8_pair 59 = .ok (.invokevirtual 138, 3) := by decide +kernel
theorem dX8_pair_62 : decode cX8_pair 62 = .ok (.ifCond .ne 5, 3) := by decide +kernel
theorem dX8_pair_65 : decode cX8_pair 65 = .ok (.iconst 0, 1) := by decide +kernel
theorem dX8_pair_66 : decode cX8_pair 66 = .ok (.ireturn, 1) := by decide +kernel
theorem dX8_pair_67 : decode cX8_pair 67 = .ok (.aload_n 0, 1) := by decide +kernel
theorem dX8_pair_68 : decode cX8_pair 68 = .ok (.invokevirtual 188, 3) := by decide +kernel
theorem dX8_pair_71 : decode cX8_pair 71 = .ok (.aload_n 0, 1) := by decide +kernel
theorem dX8_pair_72 : decode cX8_pair 72 = .ok (.iconst 0, 1) := by decide +kernel
theorem dX8_pair_73 : decode cX8_pair 73 = .ok (.iload_n 1, 1) := by decide +kernel
theorem dX8_pair_74 : decode cX8_pair 74 = .ok (.iload_n 2, 1) := by decide +kernel
theorem dX8_pair_75 : decode cX8_pair 75 = .ok (.iload_n 3, 1) := by decide +kernel
theorem dX8_pair_76 : decode cX8_pair 76 = .ok (.iconst 1, 1) := by decide +kernel
theorem dX8_pair_77 : decode cX8_pair 77 = .ok (.invokevirtual 180, 3) := by decide +kernel
theorem dX8_pair_80 : decode cX8_pair 80 = .ok (.aload_n 0, 1) := by decide +kernel
theorem dX8_pair_81 : decode cX8_pair 81 = .ok (.getfield 44, 3) := by decide +kernel
theorem dX8_pair_84 : decode cX8_pair 84 = .ok (.iconst 1, 1) := by decide +kernel
theorem dX8_pair_85 : decode cX8_pair 85 = .ok (.iconst 1, 1) := by decide +kernel
theorem dX8_pair_86 : decode cX8_pair 86 = .ok (.bastore, 1) := by decide +kernel
theorem dX8_pair_87 : decode cX8_pair 87 = .ok (.aload_n 0, 1) := by decide +kernel
theorem dX8_pair_88 : decode cX8_pair 88 = .ok (.iconst 0, 1) := by decide +kernel
theorem dX8_pair_89 : decode cX8_pair 89 = .ok (.invokevirtual 191, 3) := by decide +kernel
theorem dX8_pair_92 : decode cX8_pair 92 = .ok (.ifCond .eq 10, 3) := by decide +kernel
theorem dX8_pair_95 : decode cX8_pair 95 = .ok (.aload_n 0, 1) := by decide +kernel
theorem dX8_pair_96 : decode cX8_pair 96 = .ok (.invokevirtual 194, 3) := by decide +kernel
theorem dX8_pair_99 : decode cX8_pair 99 = .ok (.goto 4, 3) := by decide +kernel
theorem dX8_pair_102 : decode cX8_pair 102 = .ok (.iconst 0, 1) := by decide +kernel
theorem dX8_pair_103 : decode cX8_pair 103 = .ok (.ireturn, 1) := by decide +kernel
set_option maxRecDepth 20000 in
theorem ggX8_word_X8_isThere : GoodIn wsX8_word wsX8_isThere := goodIn_g _ [(8, 2), (80, 47)] (by exact rfl) (by decide +kernel)
set_option maxRecDepth 20000 in
theorem gX8_word_X8_isThere : GoodIn wsX8_word (wsV RX8 184 RX8 yX8_isThere wsX8_isThere) := goodIn_app (goodIn_of _ (by decide +kernel)) ggX8_word_X8_isThere
set_option maxRecDepth 20000 in
theorem ggX8_word_X8_isFine : GoodIn wsX8_word wsX8_isFine := goodIn_g _ [(13, 2), (80, 47)] (by exact rfl) (by decide +kernel)
set_option maxRecDepth 20000 in
theorem gX8_word_X8_isFine : GoodIn wsX8_word (wsV RX8 138 RX8 yX8_isFine wsX8_isFine) := goodIn_app (goodIn_of _ (by decide +kernel)) ggX8_word_X8_isFine
set_option maxRecDepth 20000 in
theorem ggX8_word_X8_begins : GoodIn wsX8_word wsX8_begins := goodIn_g _ [(18, 2), (3, 1), (80, 47)] (by exact rfl) (by decide +kernel)
set_option maxRecDepth 20000 in
theorem gX8_word_X8_begins : GoodIn wsX8_word (wsV RX8 188 RX8 yX8_begins wsX8_begins) := goodIn_app (goodIn_of _ (by decide +kernel)) ggX8_word_X8_begins
set_option maxRecDepth 20000 in
theorem ggX8_word_X8_adds : GoodIn wsX8_word wsX8_adds := goodIn_g _ [(23, 2), (19, 1), (25, 1), (80, 47)] (by exact rfl) (by decide +kernel)
set_option maxRecDepth 20000 in
theorem gX8_word_X8_adds : GoodIn wsX8_word (wsV RX8 180 RX8 yX8_adds wsX8_adds) := goodIn_app (goodIn_of _ (by decide +kernel)) ggX8_word_X8_adds
set_option maxRecDepth 20000 in
theorem ggX8_word_X8_trims : GoodIn wsX8_word wsX8_trims := goodIn_g _ [(29, 6), (24, 1), (35, 4), (25, 1), (39, 2), (3, 1), (41, 3), (7, 1), (44, 2), (19, 1), (46, 14), (80, 47)] (by exact rfl) (by decide +kernel)
set_option maxRecDepth 20000 in
theorem gX8_word_X8_trims : GoodIn wsX8_word (wsV RX8 191 RX8 yX8_trims wsX8_trims) := goodIn_app (goodIn_of _ (by decide +kernel)) ggX8_word_X8_trims
set_option maxRecDepth 20000 in
theorem ggX8_word_X8_keeps : GoodIn wsX8_word wsX8_keeps := goodIn_g _ [(63, 1), (32, 1), (9, 1), (64, 1), (31, 1), (65, 1), (40, 1), (66, 2), (35, 1), (68, 1), (36, 1), (69, 1), (37, 1), (70, 1), (38, 1), (71, 1), (39, 1), (72, 3), (7, 1), (75, 52)] (by exact rfl) (by decide +kernel)
set_option maxRecDepth 20000 in
theorem gX8_word_X8_keeps : GoodIn wsX8_word (wsV RX8 194 RX8 yX8_keeps wsX8_keeps) := goodIn_app (goodIn_of _ (by decide +kernel)) ggX8_word_X8_keeps
theorem dX8_word_0 : decode cX8_word 0 = .ok (.aload_n 0, 1) := by decide +kernel
theorem dX8_word_1 : decode cX8_word 1 = .ok (.aload_n 0, 1) := by decide +kernel
theorem dX8_word_2 : decode cX8_word 2 = .ok (.invokevirtual 184, 3) := by decide +kernel
theorem dX8_word_5 : decode cX8_word 5 = .ok (.ifCond .eq 7, 3) := by decide +kernel
theorem dX8_word_8 : decode cX8_word 8 = .ok (.iconst 0, 1) := by decide +kernel
theorem dX8_word_9 : decode cX8_word 9 = .ok (.goto 4, 3) := by decide +kernel
theorem dX8_word_12 : decode cX8_word 12 = .ok (.iconst 1, 1) := by decide +kernel
theorem dX8_word_13 : decode cX8_word 13 = .ok (.invokevirtual 138, 3) := by decide +kernel
theorem dX8_word_16 : decode cX8_word 16 = .ok (.ifCond .ne 5, 3) := by decide +kernel
theorem dX8_word_19 : decode cX8_word 19 = .ok (.iconst 0, 1) := by decide +kernel
theorem dX8_word_20 : decode cX8_word 20 = .ok (.ireturn, 1) := by decide +kernel
theorem dX8_word_21 : decode cX8_word 21 = .ok (.aload_n 0, 1) := by decide +kernel
theorem dX8_word_22 : decode cX8_word 22 = .ok (.invokevirtual 188, 3) := by decide +kernel
theorem dX8_word_25 : decode cX8_word 25 = .ok (.iconst 0, 1) := by decide +kernel
theorem dX8_word_26 : decode cX8_word 26 = .ok (.istore_n 1, 1) := by decide +kernel
theorem dX8_word_27 : decode cX8_word 27 = .ok (.iload_n 1, 1) := by decide +kernel
theorem dX8_word_28 : decode cX8_word 28 = .ok (.aload_n 0, 1) := by decide +kernel
theorem dX8_word_29 : decode cX8_word 29 = .ok (.getfield 135, 3) := by decide +kernel
theorem dX8_word_32 : decode cX8_word 32 = .ok (.if_icmp .ge 30, 3) := by decide +kernel
theorem dX8_word_35 : decode cX8_word 35 = .ok (.aload_n 0, 1) := by decide +kernel
theorem dX8_word_36 : decode cX8_word 36 = .ok (.iload_n 1, 1) := by decide +kernel
theorem dX8_word_37 : decode cX8_word 37 = .ok (.aload_n 0, 1) := by decide +kernel
theorem dX8_word_38 : decode cX8_word 38 = .ok (.getfield 7, 3) := by decide +kernel
theorem dX8_word_41 : decode cX8_word 41 = .ok (.iload_n 1, 1) := by decide +kernel
theorem dX8_word_42 : decode cX8_word 42 = .ok (.iaload, 1) := by decide +kernel
theorem dX8_word_43 : decode cX8_word 43 = .ok (.aload_n 0, 1) := by decide +kernel
theorem dX8_word_44 : decode cX8_word 44 = .ok (.getfield 7, 3) := by decide +kernel
theorem dX8_word_47 : decode cX8_word 47 = .ok (.iload_n 1, 1) := by decide +kernel
theorem dX8_word_48 : decode cX8_word 48 = .ok (.iaload, 1) := by decide +kernel
theorem dX8_word_49 : decode cX8_word 49 = .ok (.iconst 0, 1) := by decide +kernel
theorem dX8_word_50 : decode cX8_word 50 = .ok (.iload_n 1, 1) := by decide +kernel
theorem dX8_word_51 : decode cX8_word 51 = .ok (.iconst 1, 1) := by decide +kernel
theorem dX8_word_52 : decode cX8_word 52 = .ok (.iadd, 1) := by decide +kernel
theorem dX8_word_53 : decode cX8_word 53 = .ok (.invokevirtual 180, 3) := by decide +kernel
theorem dX8_word_56 : decode cX8_word 56 = .ok (.iinc 1 1, 3) := by decide +kernel
theorem dX8_word_59 : decode cX8_word 59 = .ok (.goto (-32), 3) := by decide +kernel
theorem dX8_word_62 : decode cX8_word 62 = .ok (.aload_n 0, 1) := by decide +kernel
theorem dX8_word_63 : decode cX8_word 63 = .ok (.getfield 44, 3) := by decide +kernel
theorem dX8_word_66 : decode cX8_word 66 = .ok (.aload_n 0, 1) := by decide +kernel
theorem dX8_word_67 : decode cX8_word 67 = .ok (.getfield 135, 3) := by decide +kernel
theorem dX8_word_70 : decode cX8_word 70 = .ok (.iconst 1, 1) := by decide +kernel
theorem dX8_word_71 : decode cX8_word 71 = .ok (.bastore, 1) := by decide +kernel
theorem dX8_word_72 : decode cX8_word 72 = .ok (.aload_n 0, 1) := by decide +kernel
theorem dX8_word_73 : decode cX8_word 73 = .ok (.iconst 0, 1) := by decide +kernel
theorem dX8_word_74 : decode cX8_word 74 = .ok (.invokevirtual 191, 3) := by decide +kernel
theorem dX8_word_77 : decode cX8_word 77 = .ok (.ifCond .eq 10, 3) := by decide +kernel
theorem dX8_word_80 : decode cX8_word 80 = .ok (.aload_n 0, 1) := by decide +kernel
theorem dX8_word_81 : decode cX8_word 81 = .ok (.invokevirtual 194, 3) := by decide +kernel
theorem dX8_word_84 : decode cX8_word 84 = .ok (.goto 4, 3) := by decide +kernel
theorem dX8_word_87 : decode cX8_word 87 = .ok (.iconst 0, 1) := by decide +kernel
theorem dX8_word_88 : decode cX8_word 88 = .ok (.ireturn, 1) := by decide +kernel
set_option maxRecDepth 20000 in
theorem ggX8_any_X8_isThere : GoodIn wsX8_any wsX8_isThere := goodIn_g _ [(6, 2), (78, 47)] (by exact rfl) (by decide +kernel)
set_option maxRecDepth 20000 in
theorem gX8_any_X8_isThere : GoodIn wsX8_any (wsV RX8 184 RX8 yX8_isThere wsX8_isThere) := goodIn_app (goodIn_of _ (by decide +kernel)) ggX8_any_X8_isThere
set_option maxRecDepth 20000 in
theorem ggX8_any_X8_isFine : GoodIn wsX8_any wsX8_isFine := goodIn_g _ [(11, 2), (78, 47)] (by exact rfl) (by decide +kernel)
set_option maxRecDepth 20000 in
theorem gX8_any_X8_isFine : GoodIn wsX8_any (wsV RX8 138 RX8 yX8_isFine wsX8_isFine) := goodIn_app (goodIn_of _ (by decide +kernel)) ggX8_any_X8_isFine
set_option maxRecDepth 20000 in
theorem ggX8_any_X8_begins : GoodIn wsX8_any wsX8_begins := goodIn_g _ [(16, 2), (1, 1), (78, 47)] (by exact rfl) (by decide +kernel)
set_option maxRecDepth 20000 in
theorem gX8_any_X8_begins : GoodIn wsX8_any (wsV RX8 188 RX8 yX8_begins wsX8_begins) := goodIn_app (goodIn_of _ (by decide +kernel)) ggX8_any_X8_begins
set_option maxRecDepth 20000 in
theorem ggX8_any_X8_adds : GoodIn wsX8_any wsX8_adds := goodIn_g _ [(21, 2), (17, 1), (23, 1), (78, 47)] (by exact rfl) (by decide +kernel)
set_option maxRecDepth 20000 in
theorem gX8_any_X8_adds : GoodIn wsX8_any (wsV RX8 180 RX8 yX8_adds wsX8_adds) := goodIn_app (goodIn_of _ (by decide +kernel)) ggX8_any_X8_adds
set_option maxRecDepth 20000 in
theorem ggX8_any_X8_trims : GoodIn wsX8_any wsX8_trims := goodIn_g _ [(27, 6), (22, 1), (33, 4), (23, 1), (37, 2), (1, 1), (39, 3), (5, 1), (42, 2), (17, 1), (44, 14), (78, 47)] (by exact rfl) (by decide +kernel)
set_option maxRecDepth 20000 in
theorem gX8_any_X8_trims : GoodIn wsX8_any (wsV RX8 191 RX8 yX8_trims wsX8_trims) := goodIn_app (goodIn_of _ (by decide +kernel)) ggX8_any_X8_trims
set_option maxRecDepth 20000 in
theorem ggX8_any_X8_keeps : GoodIn wsX8_any wsX8_keeps := goodIn_g _ [(61, 1), (30, 1), (7, 1), (62, 1), (29, 1), (63, 1), (38, 1), (64, 2), (33, 1), (66, 1), (34, 1), (67, 1), (35, 1), (68, 1), (36, 1), (69, 1), (37, 1), (70, 3), (5, 1), (73, 52)] (by exact rfl) (by decide +kernel)
set_option maxRecDepth 20000 in
theorem gX8_any_X8_keeps : GoodIn wsX8_any (wsV RX8 194 RX8 yX8_keeps wsX8_keeps) := goodIn_app (goodIn_of _ (by decide +kernel)) ggX8_any_X8_keeps
theorem dX8_any_0 : decode cX8_any 0 = .ok (.aload_n 0, 1) := by decide +kernel
theorem dX8_any_1 : decode cX8_any 1 = .ok (.aload_n 0, 1) := by decide +kernel
theorem dX8_any_2 : decode cX8_any 2 = .ok (.invokevirtual 184, 3) := by decide +kernel
theorem dX8_any_5 : decode cX8_any 5 = .ok (.ifCond .eq 7, 3) := by decide +kernel
theorem dX8_any_8 : decode cX8_any 8 = .ok (.iconst 0, 1) := by decide +kernel
theorem dX8_any_9 : decode cX8_any 9 = .ok (.goto 4, 3) := by decide +kernel
theorem dX8_any_12 : decode cX8_any 12 = .ok (.iconst 1, 1) := by decide +kernel
theorem dX8_any_13 : decode cX8_any 13 = .ok (.invokevirtual 138, 3) := by decide +kernel
theorem dX8_any_16 : decode cX8_any 16 = .ok (.ifCond .ne 5, 3) := by decide +kernel
theorem dX8_any_19 : decode cX8_any 19 = .ok (.iconst 0, 1) := by decide +kernel
theorem dX8_any_20 : decode cX8_any 20 = .ok (.ireturn, 1) := by decide +kernel
theorem dX8_any_21 : decode cX8_any 21 = .ok (.aload_n 0, 1) := by decide +kernel
theorem dX8_any_22 : decode cX8_any 22 = .ok (.invokevirtual 188, 3) := by decide +kernel
theorem dX8_any_25 : decode cX8_any 25 = .ok (.iconst 0, 1) := by decide +kernel
theorem dX8_any_26 : decode cX8_any 26 = .ok (.istore_n 1, 1) := by decide +kernel
theorem dX8_any_27 : decode cX8_any 27 = .ok (.iload_n 1, 1) := by decide +kernel
theorem dX8_any_28 : decode cX8_any 28 = .ok (.bipush 8, 2) := by decide +kernel
theorem dX8_any_30 : decode cX8_any 30 = .ok (.if_icmp .ge 18, 3) := by decide +kernel
theorem dX8_any_33 : decode cX8_any 33 = .ok (.aload_n 0, 1) := by decide +kernel
theorem dX8_any_34 : decode cX8_any 34 = .ok (.iconst 0, 1) := by decide +kernel
theorem dX8_any_35 : decode cX8_any 35 = .ok (.iload_n 1, 1) := by decide +kernel
theorem dX8_any_36 : decode cX8_any 36 = .ok (.iload_n 1, 1) := by decide +kernel
theorem dX8_any_37 : decode cX8_any 37 = .ok (.iconst 0, 1) := by decide +kernel
theorem dX8_any_38 : decode cX8_any 38 = .ok (.iconst 1, 1) := by decide +kernel
theorem dX8_any_39 : decode cX8_any 39 = .ok (.invokevirtual 180, 3) := by decide +kernel
theorem dX8_any_42 : decode cX8_any 42 = .ok (.iinc 1 1, 3) := by decide +kernel
theorem dX8_any_45 : decode cX8_any 45 = .ok (.goto (-18), 3) := by decide +kernel
theorem dX8_any_48 : decode cX8_any 48 = .ok (.aload_n 0, 1) := by decide +kernel
theorem dX8_any_49 : decode cX8_any 49 = .ok (.getfield 44, 3) := by decide +kernel
theorem dX8_any_52 : decode cX8_any 52 = .ok (.iconst 1, 1) := by decide +kernel
theorem dX8_any_53 : decode cX8_any 53 = .ok (.iconst 1, 1) := by decide +kernel
theorem dX8_any_54 : decode cX8_any 54 = .ok (.bastore, 1) := by decide +kernel
theorem dX8_any_55 : decode cX8_any 55 = .ok (.aload_n 0, 1) := by decide +kernel
theorem dX8_any_56 : decode cX8_any 56 = .ok (.iconst 0, 1) := by decide +kernel
theorem dX8_any_57 : decode cX8_any 57 = .ok (.invokevirtual 191, 3) := by decide +kernel
theorem dX8_any_60 : decode cX8_any 60 = .ok (.ifCond .eq 10, 3) := by decide +kernel
theorem dX8_any_63 : decode cX8_any 63 = .ok (.aload_n 0, 1) := by decide +kernel
theorem dX8_any_64 : decode cX8_any 64 = .ok (.invokevirtual 194, 3) := by decide +kernel
theorem dX8_any_67 : decode cX8_any 67 = .ok (.goto 4, 3) := by decide +kernel
theorem dX8_any_70 : decode cX8_any 70 = .ok (.iconst 0, 1) := by decide +kernel
theorem dX8_any_71 : decode cX8_any 71 = .ok (.ireturn, 1) := by decide +kernel
set_option maxRecDepth 20000 in
theorem ggX8_joins_X8_begins : GoodIn wsX8_joins wsX8_begins := goodIn_g _ [(7, 2), (2, 1), (64, 47)] (by exact rfl) (by decide +kernel)
set_option maxRecDepth 20000 in
theorem gX8_joins_X8_begins : GoodIn wsX8_joins (wsV RX8 188 RX8 yX8_begins wsX8_begins) := goodIn_app (goodIn_of _ (by decide +kernel)) ggX8_joins_X8_begins
set_option maxRecDepth 20000 in
theorem ggX8_joins_X8_puts : GoodIn wsX8_joins wsX8_puts := goodIn_g _ [(12, 10), (6, 1), (22, 2), (8, 1), (24, 1), (64, 47)] (by exact rfl) (by decide +kernel)
set_option maxRecDepth 20000 in
theorem gX8_joins_X8_puts : GoodIn wsX8_joins (wsV RX8 198 RX8 yX8_puts wsX8_puts) := goodIn_app (goodIn_of _ (by decide +kernel)) ggX8_joins_X8_puts
set_option maxRecDepth 20000 in
theorem ggX8_joins_X8_isEndOf : GoodIn wsX8_joins wsX8_isEndOf := goodIn_g _ [(28, 2), (64, 47)] (by exact rfl) (by decide +kernel)
set_option maxRecDepth 20000 in
theorem gX8_joins_X8_isEndOf : GoodIn wsX8_joins (wsV RX8 201 RX8 yX8_isEndOf wsX8_isEndOf) := goodIn_app (goodIn_of _ (by decide +kernel)) ggX8_joins_X8_isEndOf
set_option maxRecDepth 20000 in
theorem ggX8_joins_X8_adds : GoodIn wsX8_joins wsX8_adds := goodIn_g _ [(22, 2), (8, 1), (24, 1), (64, 47)] (by exact rfl) (by decide +kernel)
set_option maxRecDepth 20000 in
theorem gX8_joins_X8_adds : GoodIn wsX8_joins (wsV RX8 180 RX8 yX8_adds wsX8_adds) := goodIn_app (goodIn_of _ (by decide +kernel)) ggX8_joins_X8_adds
set_option maxRecDepth 20000 in
theorem ggX8_joins_X8_trims : GoodIn wsX8_joins wsX8_trims := goodIn_g _ [(33, 6), (23, 1), (39, 4), (24, 1), (43, 2), (2, 1), (45, 3), (6, 1), (48, 2), (8, 1), (50, 61)] (by exact rfl) (by decide +kernel)
set_option maxRecDepth 20000 in
theorem gX8_joins_X8_trims : GoodIn wsX8_joins (wsV RX8 191 RX8 yX8_trims wsX8_trims) := goodIn_app (goodIn_of _ (by decide +kernel)) ggX8_joins_X8_trims
theorem dX8_joins_0 : decode cX8_joins 0 = .ok (.aload_n 0, 1) := by decide +kernel
theorem dX8_joins_1 : decode cX8_joins 1 = .ok (.invokevirtual 188, 3) := by decide +kernel
theorem dX8_joins_4 : decode cX8_joins 4 = .ok (.aload_n 0, 1) := by decide +kernel
theorem dX8_joins_5 : decode cX8_joins 5 = .ok (.iload_n 1, 1) := by decide +kernel
theorem dX8_joins_6 : decode cX8_joins 6 = .ok (.iconst 0, 1) := by decide +kernel
theorem dX8_joins_7 : decode cX8_joins 7 = .ok (.invokevirtual 198, 3) := by decide +kernel
theorem dX8_joins_10 : decode cX8_joins 10 = .ok (.aload_n 0, 1) := by decide +kernel
theorem dX8_joins_11 : decode cX8_joins 11 = .ok (.iload_n 2, 1) := by decide +kernel
theorem dX8_joins_12 : decode cX8_joins 12 = .ok (.aload_n 0, 1) := by decide +kernel
theorem dX8_joins_13 : decode cX8_joins 13 = .ok (.getfield 13, 3) := by decide +kernel
theorem dX8_joins_16 : decode cX8_joins 16 = .ok (.iload_n 1, 1) := by decide +kernel
theorem dX8_joins_17 : decode cX8_joins 17 = .ok (.iaload, 1) := by decide +kernel
theorem dX8_joins_18 : decode cX8_joins 18 = .ok (.invokevirtual 198, 3) := by decide +kernel
theorem dX8_joins_21 : decode cX8_joins 21 = .ok (.iconst 0, 1) := by decide +kernel
theorem dX8_joins_22 : decode cX8_joins 22 = .ok (.istore_n 3, 1) := by decide +kernel
theorem dX8_joins_23 : decode cX8_joins 23 = .ok (.iload_n 3, 1) := by decide +kernel
theorem dX8_joins_24 : decode cX8_joins 24 = .ok (.aload_n 0, 1) := by decide +kernel
theorem dX8_joins_25 : decode cX8_joins 25 = .ok (.getfield 13, 3) := by decide +kernel
theorem dX8_joins_28 : decode cX8_joins 28 = .ok (.iload_n 1, 1) := by decide +kernel
theorem dX8_joins_29 : decode cX8_joins 29 = .ok (.iaload, 1) := by decide +kernel
theorem dX8_joins_30 : decode cX8_joins 30 = .ok (.if_icmp .ge 34, 3) := by decide +kernel
theorem dX8_joins_33 : decode cX8_joins 33 = .ok (.aload_n 0, 1) := by decide +kernel
theorem dX8_joins_34 : decode cX8_joins 34 = .ok (.iload_n 1, 1) := by decide +kernel
theorem dX8_joins_35 : decode cX8_joins 35 = .ok (.iload_n 3, 1) := by decide +kernel
theorem dX8_joins_36 : decode cX8_joins 36 = .ok (.invokevirtual 201, 3) := by decide +kernel
theorem dX8_joins_39 : decode cX8_joins 39 = .ok (.ifCond .eq 19, 3) := by decide +kernel
theorem dX8_joins_42 : decode cX8_joins 42 = .ok (.aload_n 0, 1) := by decide +kernel
theorem dX8_joins_43 : decode cX8_joins 43 = .ok (.iload_n 3, 1) := by decide +kernel
theorem dX8_joins_44 : decode cX8_joins 44 = .ok (.bipush 8, 2) := by decide +kernel
theorem dX8_joins_46 : decode cX8_joins 46 = .ok (.bipush 8, 2) := by decide +kernel
theorem dX8_joins_48 : decode cX8_joins 48 = .ok (.iconst 0, 1) := by decide +kernel
theorem dX8_joins_49 : decode cX8_joins 49 = .ok (.aload_n 0, 1) := by decide +kernel
theorem dX8_joins_50 : decode cX8_joins 50 = .ok (.getfield 13, 3) := by decide +kernel
theorem dX8_joins_53 : decode cX8_joins 53 = .ok (.iload_n 1, 1) := by decide +kernel
theorem dX8_joins_54 : decode cX8_joins 54 = .ok (.iaload, 1) := by decide +kernel
theorem dX8_joins_55 : decode cX8_joins 55 = .ok (.invokevirtual 180, 3) := by decide +kernel
theorem dX8_joins_58 : decode cX8_joins 58 = .ok (.iinc 3 1, 3) := by decide +kernel
theorem dX8_joins_61 : decode cX8_joins 61 = .ok (.goto (-38), 3) := by decide +kernel
theorem dX8_joins_64 : decode cX8_joins 64 = .ok (.iconst 0, 1) := by decide +kernel
theorem dX8_joins_65 : decode cX8_joins 65 = .ok (.istore_n 3, 1) := by decide +kernel
theorem dX8_joins_66 : decode cX8_joins 66 = .ok (.iload_n 3, 1) := by decide +kernel
theorem dX8_joins_67 : decode cX8_joins 67 = .ok (.aload_n 0, 1) := by decide +kernel
theorem dX8_joins_68 : decode cX8_joins 68 = .ok (.getfield 13, 3) := by decide +kernel
theorem dX8_joins_71 : decode cX8_joins 71 = .ok (.iload_n 2, 1) := by decide +kernel
theorem dX8_joins_72 : decode cX8_joins 72 = .ok (.iaload, 1) := by decide +kernel
theorem dX8_joins_73 : decode cX8_joins 73 = .ok (.if_icmp .ge 28, 3) := by decide +kernel
theorem dX8_joins_76 : decode cX8_joins 76 = .ok (.aload_n 0, 1) := by decide +kernel
theorem dX8_joins_77 : decode cX8_joins 77 = .ok (.getfield 44, 3) := by decide +kernel
theorem dX8_joins_80 : decode cX8_joins 80 = .ok (.aload_n 0, 1) := by decide +kernel
theorem dX8_joins_81 : decode cX8_joins 81 = .ok (.getfield 13, 3) := by decide +kernel
theorem dX8_joins_84 : decode cX8_joins 84 = .ok (.iload_n 1, 1) := by decide +kernel
theorem dX8_joins_85 : decode cX8_joins 85 = .ok (.iaload, 1) := by decide +kernel
theorem dX8_joins_86 : decode cX8_joins 86 = .ok (.iload_n 3, 1) := by decide +kernel
theorem dX8_joins_87 : decode cX8_joins 87 = .ok (.iadd, 1) := by decide +kernel
theorem dX8_joins_88 : decode cX8_joins 88 = .ok (.aload_n 0, 1) := by decide +kernel
theorem dX8_joins_89 : decode cX8_joins 89 = .ok (.iload_n 2, 1) := by decide +kernel
theorem dX8_joins_90 : decode cX8_joins 90 = .ok (.iload_n 3, 1) := by decide +kernel
theorem dX8_joins_91 : decode cX8_joins 91 = .ok (.invokevirtual 201, 3) := by decide +kernel
theorem dX8_joins_94 : decode cX8_joins 94 = .ok (.bastore, 1) := by decide +kernel
theorem dX8_joins_95 : decode cX8_joins 95 = .ok (.iinc 3 1, 3) := by decide +kernel
theorem dX8_joins_98 : decode cX8_joins 98 = .ok (.goto (-32), 3) := by decide +kernel
theorem dX8_joins_101 : decode cX8_joins 101 = .ok (.aload_n 0, 1) := by decide +kernel
theorem dX8_joins_102 : decode cX8_joins 102 = .ok (.iconst 0, 1) := by decide +kernel
theorem dX8_joins_103 : decode cX8_joins 103 = .ok (.invokevirtual 191, 3) := by decide +kernel
theorem dX8_joins_106 : decode cX8_joins 106 = .ok (.ireturn, 1) := by decide +kernel
set_option maxRecDepth 20000 in
theorem ggX8_join_X8_isMachine : GoodIn wsX8_join wsX8_isMachine := goodIn_g _ [(5, 4), (4, 1), (9, 1), (97, 47)] (by exact rfl) (by decide +kernel)
set_option maxRecDepth 20000 in
theorem gX8_join_X8_isMachine : GoodIn wsX8_join (wsV RX8 204 RX8 yX8_isMachine wsX8_isMachine) := goodIn_app (goodIn_of _ (by decide +kernel)) ggX8_join_X8_isMachine
set_option maxRecDepth 20000 in
theorem ggX8_join_X8_isThere : GoodIn wsX8_join wsX8_isThere := goodIn_g _ [(13, 1), (6, 1), (97, 47)] (by exact rfl) (by decide +kernel)
set_option maxRecDepth 20000 in
theorem gX8_join_X8_isThere : GoodIn wsX8_join (wsV RX8 184 RX8 yX8_isThere wsX8_isThere) := goodIn_app (goodIn_of _ (by decide +kernel)) ggX8_join_X8_isThere
set_option maxRecDepth 20000 in
theorem ggX8_join_X8_joins : GoodIn wsX8_join wsX8_joins := goodIn_g _ [(17, 6), (4, 1), (23, 57), (97, 47)] (by exact rfl) (by decide +kernel)
set_option maxRecDepth 20000 in
theorem gX8_join_X8_joins : GoodIn wsX8_join (wsV RX8 207 RX8 yX8_joins wsX8_joins) := goodIn_app (goodIn_of _ (by decide +kernel)) ggX8_join_X8_joins
set_option maxRecDepth 20000 in
theorem ggX8_join_X8_isFine : GoodIn wsX8_join wsX8_isFine := goodIn_g _ [(83, 2), (97, 47)] (by exact rfl) (by decide +kernel)
set_option maxRecDepth 20000 in
theorem gX8_join_X8_isFine : GoodIn wsX8_join (wsV RX8 138 RX8 yX8_isFine wsX8_isFine) := goodIn_app (goodIn_of _ (by decide +kernel)) ggX8_join_X8_isFine
set_option maxRecDepth 20000 in
theorem ggX8_join_X8_keeps : GoodIn wsX8_join wsX8_keeps := goodIn_g _ [(88, 1), (52, 1), (6, 1), (18, 1), (51, 1), (45, 1), (60, 1), (29, 2), (55, 1), (31, 1), (56, 1), (32, 1), (57, 1), (33, 1), (58, 1), (34, 1), (59, 1), (89, 3), (4, 1), (92, 52)] (by exact rfl) (by decide +kernel)
