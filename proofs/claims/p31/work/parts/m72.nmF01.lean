theorem dL_isTrimmed_38 : decode cL_isTrimmed 38 = .ok (.invokevirtual 73, 3) := by decide +kernel
theorem dL_isTrimmed_41 : decode cL_isTrimmed 41 = .ok (.ifCond .eq 10, 3) := by decide +kernel
theorem dL_isTrimmed_44 : decode cL_isTrimmed 44 = .ok (.lconst 1, 1) := by decide +kernel
theorem dL_isTrimmed_45 : decode cL_isTrimmed 45 = .ok (.iload 6, 2) := by decide +kernel
theorem dL_isTrimmed_47 : decode cL_isTrimmed 47 = .ok (.lshl, 1) := by decide +kernel
theorem dL_isTrimmed_48 : decode cL_isTrimmed 48 = .ok (.goto 4, 3) := by decide +kernel
theorem dL_isTrimmed_51 : decode cL_isTrimmed 51 = .ok (.lconst 0, 1) := by decide +kernel
theorem dL_isTrimmed_52 : decode cL_isTrimmed 52 = .ok (.lor, 1) := by decide +kernel
theorem dL_isTrimmed_53 : decode cL_isTrimmed 53 = .ok (.lstore 4, 2) := by decide +kernel
theorem dL_isTrimmed_55 : decode cL_isTrimmed 55 = .ok (.iinc 6 1, 3) := by decide +kernel
theorem dL_isTrimmed_58 : decode cL_isTrimmed 58 = .ok (.goto (-32), 3) := by decide +kernel
theorem dL_isTrimmed_61 : decode cL_isTrimmed 61 = .ok (.ldc2_w 77, 3) := by decide +kernel
theorem dL_isTrimmed_64 : decode cL_isTrimmed 64 = .ok (.lstore 6, 2) := by decide +kernel
theorem dL_isTrimmed_66 : decode cL_isTrimmed 66 = .ok (.iconst 1, 1) := by decide +kernel
theorem dL_isTrimmed_67 : decode cL_isTrimmed 67 = .ok (.istore 8, 2) := by decide +kernel
theorem dL_isTrimmed_69 : decode cL_isTrimmed 69 = .ok (.iload_n 2, 1) := by decide +kernel
theorem dL_isTrimmed_70 : decode cL_isTrimmed 70 = .ok (.ifCond .le 20, 3) := by decide +kernel
theorem dL_isTrimmed_73 : decode cL_isTrimmed 73 = .ok (.iload_n 2, 1) := by decide +kernel
theorem dL_isTrimmed_74 : decode cL_isTrimmed 74 = .ok (.bipush 33, 2) := by decide +kernel
theorem dL_isTrimmed_76 : decode cL_isTrimmed 76 = .ok (.if_icmp .ge 14, 3) := by decide +kernel
theorem dL_isTrimmed_79 : decode cL_isTrimmed 79 = .ok (.iload_n 3, 1) := by decide +kernel
theorem dL_isTrimmed_80 : decode cL_isTrimmed 80 = .ok (.sipush 161, 3) := by decide +kernel
theorem dL_isTrimmed_83 : decode cL_isTrimmed 83 = .ok (.if_icmp .ge 7, 3) := by decide +kernel
theorem dL_isTrimmed_86 : decode cL_isTrimmed 86 = .ok (.iconst 1, 1) := by decide +kernel
theorem dL_isTrimmed_87 : decode cL_isTrimmed 87 = .ok (.goto 4, 3) := by decide +kernel
theorem dL_isTrimmed_90 : decode cL_isTrimmed 90 = .ok (.iconst 0, 1) := by decide +kernel
theorem dL_isTrimmed_91 : decode cL_isTrimmed 91 = .ok (.istore 9, 2) := by decide +kernel
theorem dL_isTrimmed_93 : decode cL_isTrimmed 93 = .ok (.lload 4, 2) := by decide +kernel
theorem dL_isTrimmed_95 : decode cL_isTrimmed 95 = .ok (.lstore 10, 2) := by decide +kernel
theorem dL_isTrimmed_97 : decode cL_isTrimmed 97 = .ok (.iconst 0, 1) := by decide +kernel
theorem dL_isTrimmed_98 : decode cL_isTrimmed 98 = .ok (.istore 12, 2) := by decide +kernel
theorem dL_isTrimmed_100 : decode cL_isTrimmed 100 = .ok (.iload 12, 2) := by decide +kernel
theorem dL_isTrimmed_102 : decode cL_isTrimmed 102 = .ok (.iload_n 2, 1) := by decide +kernel
theorem dL_isTrimmed_103 : decode cL_isTrimmed 103 = .ok (.if_icmp .ge 61, 3) := by decide +kernel
theorem dL_isTrimmed_106 : decode cL_isTrimmed 106 = .ok (.iconst 0, 1) := by decide +kernel
theorem dL_isTrimmed_107 : decode cL_isTrimmed 107 = .ok (.istore 13, 2) := by decide +kernel
theorem dL_isTrimmed_109 : decode cL_isTrimmed 109 = .ok (.iload 13, 2) := by decide +kernel
theorem dL_isTrimmed_111 : decode cL_isTrimmed 111 = .ok (.iload_n 3, 1) := by decide +kernel
theorem dL_isTrimmed_112 : decode cL_isTrimmed 112 = .ok (.if_icmp .ge 46, 3) := by decide +kernel
theorem dL_isTrimmed_115 : decode cL_isTrimmed 115 = .ok (.lload 10, 2) := by decide +kernel
theorem dL_isTrimmed_117 : decode cL_isTrimmed 117 = .ok (.lload 10, 2) := by decide +kernel
theorem dL_isTrimmed_119 : decode cL_isTrimmed 119 = .ok (.aload_n 0, 1) := by decide +kernel
theorem dL_isTrimmed_120 : decode cL_isTrimmed 120 = .ok (.iload_n 1, 1) := by decide +kernel
theorem dL_isTrimmed_121 : decode cL_isTrimmed 121 = .ok (.iload 13, 2) := by decide +kernel
theorem dL_isTrimmed_123 : decode cL_isTrimmed 123 = .ok (.iconst 4, 1) := by decide +kernel
theorem dL_isTrimmed_124 : decode cL_isTrimmed 124 = .ok (.invokevirtual 79, 3) := by decide +kernel
theorem dL_isTrimmed_127 : decode cL_isTrimmed 127 = .ok (.lshr, 1) := by decide +kernel
theorem dL_isTrimmed_128 : decode cL_isTrimmed 128 = .ok (.lconst 1, 1) := by decide +kernel
theorem dL_isTrimmed_129 : decode cL_isTrimmed 129 = .ok (.land, 1) := by decide +kernel
theorem dL_isTrimmed_130 : decode cL_isTrimmed 130 = .ok (.lconst 1, 1) := by decide +kernel
theorem dL_isTrimmed_131 : decode cL_isTrimmed 131 = .ok (.lcmp, 1) := by decide +kernel
theorem dL_isTrimmed_132 : decode cL_isTrimmed 132 = .ok (.ifCond .ne 16, 3) := by decide +kernel
theorem dL_isTrimmed_135 : decode cL_isTrimmed 135 = .ok (.lconst 1, 1) := by decide +kernel
theorem dL_isTrimmed_136 : decode cL_isTrimmed 136 = .ok (.aload_n 0, 1) := by decide +kernel
theorem dL_isTrimmed_137 : decode cL_isTrimmed 137 = .ok (.iload_n 1, 1) := by decide +kernel
theorem dL_isTrimmed_138 : decode cL_isTrimmed 138 = .ok (.iload 13, 2) := by decide +kernel
theorem dL_isTrimmed_140 : decode cL_isTrimmed 140 = .ok (.iconst 0, 1) := by decide +kernel
theorem dL_isTrimmed_141 : decode cL_isTrimmed 141 = .ok (.invokevirtual 79, 3) := by decide +kernel
theorem dL_isTrimmed_144 : decode cL_isTrimmed 144 = .ok (.lshl, 1) := by decide +kernel
theorem dL_isTrimmed_145 : decode cL_isTrimmed 145 = .ok (.goto 4, 3) := by decide +kernel
theorem dL_isTrimmed_148 : decode cL_isTrimmed 148 = .ok (.lconst 0, 1) := by decide +kernel
theorem dL_isTrimmed_149 : decode cL_isTrimmed 149 = .ok (.lor, 1) := by decide +kernel
theorem dL_isTrimmed_150 : decode cL_isTrimmed 150 = .ok (.lstore 10, 2) := by decide +kernel
theorem dL_isTrimmed_152 : decode cL_isTrimmed 152 = .ok (.iinc 13 1, 3) := by decide +kernel
theorem dL_isTrimmed_155 : decode cL_isTrimmed 155 = .ok (.goto (-46), 3) := by decide +kernel
theorem dL_isTrimmed_158 : decode cL_isTrimmed 158 = .ok (.iinc 12 1, 3) := by decide +kernel
theorem dL_isTrimmed_161 : decode cL_isTrimmed 161 = .ok (.goto (-61), 3) := by decide +kernel
theorem dL_isTrimmed_164 : decode cL_isTrimmed 164 = .ok (.iconst 0, 1) := by decide +kernel
theorem dL_isTrimmed_165 : decode cL_isTrimmed 165 = .ok (.istore 12, 2) := by decide +kernel
theorem dL_isTrimmed_167 : decode cL_isTrimmed 167 = .ok (.iload 12, 2) := by decide +kernel
theorem dL_isTrimmed_169 : decode cL_isTrimmed 169 = .ok (.iload_n 3, 1) := by decide +kernel
theorem dL_isTrimmed_170 : decode cL_isTrimmed 170 = .ok (.if_icmp .ge 169, 3) := by decide +kernel
theorem dL_isTrimmed_173 : decode cL_isTrimmed 173 = .ok (.iload 9, 2) := by decide +kernel
theorem dL_isTrimmed_175 : decode cL_isTrimmed 175 = .ok (.ifCond .eq 164, 3) := by decide +kernel
theorem dL_isTrimmed_178 : decode cL_isTrimmed 178 = .ok (.aload_n 0, 1) := by decide +kernel
theorem dL_isTrimmed_179 : decode cL_isTrimmed 179 = .ok (.iload_n 1, 1) := by decide +kernel
theorem dL_isTrimmed_180 : decode cL_isTrimmed 180 = .ok (.iload 12, 2) := by decide +kernel
theorem dL_isTrimmed_182 : decode cL_isTrimmed 182 = .ok (.iconst 0, 1) := by decide +kernel
theorem dL_isTrimmed_183 : decode cL_isTrimmed 183 = .ok (.invokevirtual 79, 3) := by decide +kernel
theorem dL_isTrimmed_186 : decode cL_isTrimmed 186 = .ok (.istore 13, 2) := by decide +kernel
theorem dL_isTrimmed_188 : decode cL_isTrimmed 188 = .ok (.aload_n 0, 1) := by decide +kernel
theorem dL_isTrimmed_189 : decode cL_isTrimmed 189 = .ok (.iload_n 1, 1) := by decide +kernel
theorem dL_isTrimmed_190 : decode cL_isTrimmed 190 = .ok (.iload 12, 2) := by decide +kernel
theorem dL_isTrimmed_192 : decode cL_isTrimmed 192 = .ok (.iconst 4, 1) := by decide +kernel
theorem dL_isTrimmed_193 : decode cL_isTrimmed 193 = .ok (.invokevirtual 79, 3) := by decide +kernel
theorem dL_isTrimmed_196 : decode cL_isTrimmed 196 = .ok (.istore 14, 2) := by decide +kernel
theorem dL_isTrimmed_198 : decode cL_isTrimmed 198 = .ok (.iload 13, 2) := by decide +kernel
theorem dL_isTrimmed_200 : decode cL_isTrimmed 200 = .ok (.i2l, 1) := by decide +kernel
theorem dL_isTrimmed_201 : decode cL_isTrimmed 201 = .ok (.ldc2_w 82, 3) := by decide +kernel
theorem dL_isTrimmed_204 : decode cL_isTrimmed 204 = .ok (.lmul, 1) := by decide +kernel
theorem dL_isTrimmed_205 : decode cL_isTrimmed 205 = .ok (.aload_n 0, 1) := by decide +kernel
theorem dL_isTrimmed_206 : decode cL_isTrimmed 206 = .ok (.iload_n 1, 1) := by decide +kernel
theorem dL_isTrimmed_207 : decode cL_isTrimmed 207 = .ok (.iload 12, 2) := by decide +kernel
theorem dL_isTrimmed_209 : decode cL_isTrimmed 209 = .ok (.iconst 1, 1) := by decide +kernel
theorem dL_isTrimmed_210 : decode cL_isTrimmed 210 = .ok (.invokevirtual 79, 3) := by decide +kernel
theorem dL_isTrimmed_213 : decode cL_isTrimmed 213 = .ok (.i2l, 1) := by decide +kernel
theorem dL_isTrimmed_214 : decode cL_isTrimmed 214 = .ok (.ladd, 1) := by decide +kernel
theorem dL_isTrimmed_215 : decode cL_isTrimmed 215 = .ok (.ldc2_w 82, 3) := by decide +kernel
theorem dL_isTrimmed_218 : decode cL_isTrimmed 218 = .ok (.lmul, 1) := by decide +kernel
theorem dL_isTrimmed_219 : decode cL_isTrimmed 219 = .ok (.aload_n 0, 1) := by decide +kernel
theorem dL_isTrimmed_220 : decode cL_isTrimmed 220 = .ok (.iload_n 1, 1) := by decide +kernel
theorem dL_isTrimmed_221 : decode cL_isTrimmed 221 = .ok (.iload 12, 2) := by decide +kernel
theorem dL_isTrimmed_223 : decode cL_isTrimmed 223 = .ok (.iconst 2, 1) := by decide +kernel
theorem dL_isTrimmed_224 : decode cL_isTrimmed 224 = .ok (.invokevirtual 79, 3) := by decide +kernel
theorem dL_isTrimmed_227 : decode cL_isTrimmed 227 = .ok (.i2l, 1) := by decide +kernel
theorem dL_isTrimmed_228 : decode cL_isTrimmed 228 = .ok (.ladd, 1) := by decide +kernel
theorem dL_isTrimmed_229 : decode cL_isTrimmed 229 = .ok (.ldc2_w 84, 3) := by decide +kernel
theorem dL_isTrimmed_232 : decode cL_isTrimmed 232 = .ok (.lmul, 1) := by decide +kernel
theorem dL_isTrimmed_233 : decode cL_isTrimmed 233 = .ok (.iload 14, 2) := by decide +kernel
theorem dL_isTrimmed_235 : decode cL_isTrimmed 235 = .ok (.i2l, 1) := by decide +kernel
theorem dL_isTrimmed_236 : decode cL_isTrimmed 236 = .ok (.ladd, 1) := by decide +kernel
theorem dL_isTrimmed_237 : decode cL_isTrimmed 237 = .ok (.lstore 15, 2) := by decide +kernel
theorem dL_isTrimmed_239 : decode cL_isTrimmed 239 = .ok (.lload 15, 2) := by decide +kernel
theorem dL_isTrimmed_241 : decode cL_isTrimmed 241 = .ok (.lload 6, 2) := by decide +kernel
theorem dL_isTrimmed_243 : decode cL_isTrimmed 243 = .ok (.lcmp, 1) := by decide +kernel
theorem dL_isTrimmed_244 : decode cL_isTrimmed 244 = .ok (.ifCond .le 64, 3) := by decide +kernel
theorem dL_isTrimmed_247 : decode cL_isTrimmed 247 = .ok (.iload 13, 2) := by decide +kernel
theorem dL_isTrimmed_249 : decode cL_isTrimmed 249 = .ok (.iload 8, 2) := by decide +kernel
theorem dL_isTrimmed_251 : decode cL_isTrimmed 251 = .ok (.if_icmp .ge 57, 3) := by decide +kernel
theorem dL_isTrimmed_254 : decode cL_isTrimmed 254 = .ok (.iload 14, 2) := by decide +kernel
theorem dL_isTrimmed_256 : decode cL_isTrimmed 256 = .ok (.iload 8, 2) := by decide +kernel
theorem dL_isTrimmed_258 : decode cL_isTrimmed 258 = .ok (.if_icmp .gt 50, 3) := by decide +kernel
theorem dL_isTrimmed_261 : decode cL_isTrimmed 261 = .ok (.iload 14, 2) := by decide +kernel
theorem dL_isTrimmed_263 : decode cL_isTrimmed 263 = .ok (.iload_n 2, 1) := by decide +kernel
theorem dL_isTrimmed_264 : decode cL_isTrimmed 264 = .ok (.if_icmp .ge 44, 3) := by decide +kernel
theorem dL_isTrimmed_267 : decode cL_isTrimmed 267 = .ok (.aload_n 0, 1) := by decide +kernel
theorem dL_isTrimmed_268 : decode cL_isTrimmed 268 = .ok (.iload_n 1, 1) := by decide +kernel
theorem dL_isTrimmed_269 : decode cL_isTrimmed 269 = .ok (.iload 12, 2) := by decide +kernel
theorem dL_isTrimmed_271 : decode cL_isTrimmed 271 = .ok (.iconst 1, 1) := by decide +kernel
theorem dL_isTrimmed_272 : decode cL_isTrimmed 272 = .ok (.invokevirtual 79, 3) := by decide +kernel
theorem dL_isTrimmed_275 : decode cL_isTrimmed 275 = .ok (.bipush 9, 2) := by decide +kernel
theorem dL_isTrimmed_277 : decode cL_isTrimmed 277 = .ok (.if_icmp .ge 31, 3) := by decide +kernel
theorem dL_isTrimmed_280 : decode cL_isTrimmed 280 = .ok (.aload_n 0, 1) := by decide +kernel
theorem dL_isTrimmed_281 : decode cL_isTrimmed 281 = .ok (.iload_n 1, 1) := by decide +kernel
theorem dL_isTrimmed_282 : decode cL_isTrimmed 282 = .ok (.iload 12, 2) := by decide +kernel
theorem dL_isTrimmed_284 : decode cL_isTrimmed 284 = .ok (.iconst 2, 1) := by decide +kernel
theorem dL_isTrimmed_285 : decode cL_isTrimmed 285 = .ok (.invokevirtual 79, 3) := by decide +kernel
theorem dL_isTrimmed_288 : decode cL_isTrimmed 288 = .ok (.bipush 9, 2) := by decide +kernel
theorem dL_isTrimmed_290 : decode cL_isTrimmed 290 = .ok (.if_icmp .ge 18, 3) := by decide +kernel
theorem dL_isTrimmed_293 : decode cL_isTrimmed 293 = .ok (.aload_n 0, 1) := by decide +kernel
theorem dL_isTrimmed_294 : decode cL_isTrimmed 294 = .ok (.iload_n 1, 1) := by decide +kernel
theorem dL_isTrimmed_295 : decode cL_isTrimmed 295 = .ok (.iload 12, 2) := by decide +kernel
theorem dL_isTrimmed_297 : decode cL_isTrimmed 297 = .ok (.iconst 3, 1) := by decide +kernel
theorem dL_isTrimmed_298 : decode cL_isTrimmed 298 = .ok (.invokevirtual 79, 3) := by decide +kernel
theorem dL_isTrimmed_301 : decode cL_isTrimmed 301 = .ok (.ifCond .lt 7, 3) := by decide +kernel
theorem dL_isTrimmed_304 : decode cL_isTrimmed 304 = .ok (.iconst 1, 1) := by decide +kernel
theorem dL_isTrimmed_305 : decode cL_isTrimmed 305 = .ok (.goto 4, 3) := by decide +kernel
theorem dL_isTrimmed_308 : decode cL_isTrimmed 308 = .ok (.iconst 0, 1) := by decide +kernel
theorem dL_isTrimmed_309 : decode cL_isTrimmed 309 = .ok (.istore 9, 2) := by decide +kernel
theorem dL_isTrimmed_311 : decode cL_isTrimmed 311 = .ok (.iload 14, 2) := by decide +kernel
theorem dL_isTrimmed_313 : decode cL_isTrimmed 313 = .ok (.iload 8, 2) := by decide +kernel
theorem dL_isTrimmed_315 : decode cL_isTrimmed 315 = .ok (.if_icmp .lt 10, 3) := by decide +kernel
theorem dL_isTrimmed_318 : decode cL_isTrimmed 318 = .ok (.iload 14, 2) := by decide +kernel
theorem dL_isTrimmed_320 : decode cL_isTrimmed 320 = .ok (.iconst 1, 1) := by decide +kernel
theorem dL_isTrimmed_321 : decode cL_isTrimmed 321 = .ok (.iadd, 1) := by decide +kernel
theorem dL_isTrimmed_322 : decode cL_isTrimmed 322 = .ok (.goto 5, 3) := by decide +kernel
theorem dL_isTrimmed_325 : decode cL_isTrimmed 325 = .ok (.iload 8, 2) := by decide +kernel
theorem dL_isTrimmed_327 : decode cL_isTrimmed 327 = .ok (.istore 8, 2) := by decide +kernel
theorem dL_isTrimmed_329 : decode cL_isTrimmed 329 = .ok (.lload 15, 2) := by decide +kernel
theorem dL_isTrimmed_331 : decode cL_isTrimmed 331 = .ok (.lstore 6, 2) := by decide +kernel
theorem dL_isTrimmed_333 : decode cL_isTrimmed 333 = .ok (.iinc 12 1, 3) := by decide +kernel
theorem dL_isTrimmed_336 : decode cL_isTrimmed 336 = .ok (.goto (-169), 3) := by decide +kernel
theorem dL_isTrimmed_339 : decode cL_isTrimmed 339 = .ok (.iload 9, 2) := by decide +kernel
theorem dL_isTrimmed_341 : decode cL_isTrimmed 341 = .ok (.ifCond .eq 33, 3) := by decide +kernel
theorem dL_isTrimmed_344 : decode cL_isTrimmed 344 = .ok (.iload 8, 2) := by decide +kernel
theorem dL_isTrimmed_346 : decode cL_isTrimmed 346 = .ok (.iload_n 2, 1) := by decide +kernel
theorem dL_isTrimmed_347 : decode cL_isTrimmed 347 = .ok (.if_icmp .ne 27, 3) := by decide +kernel
theorem dL_isTrimmed_350 : decode cL_isTrimmed 350 = .ok (.lload 10, 2) := by decide +kernel
theorem dL_isTrimmed_352 : decode cL_isTrimmed 352 = .ok (.lconst 1, 1) := by decide +kernel
theorem dL_isTrimmed_353 : decode cL_isTrimmed 353 = .ok (.iload_n 2, 1) := by decide +kernel
theorem dL_isTrimmed_354 : decode cL_isTrimmed 354 = .ok (.lshl, 1) := by decide +kernel
theorem dL_isTrimmed_355 : decode cL_isTrimmed 355 = .ok (.lconst 1, 1) := by decide +kernel
theorem dL_isTrimmed_356 : decode cL_isTrimmed 356 = .ok (.lsub, 1) := by decide +kernel
theorem dL_isTrimmed_357 : decode cL_isTrimmed 357 = .ok (.lcmp, 1) := by decide +kernel
theorem dL_isTrimmed_358 : decode cL_isTrimmed 358 = .ok (.ifCond .eq 12, 3) := by decide +kernel
theorem dL_isTrimmed_361 : decode cL_isTrimmed 361 = .ok (.iload_n 2, 1) := by decide +kernel
theorem dL_isTrimmed_362 : decode cL_isTrimmed 362 = .ok (.iconst 1, 1) := by decide +kernel
theorem dL_isTrimmed_363 : decode cL_isTrimmed 363 = .ok (.if_icmp .ne 11, 3) := by decide +kernel
theorem dL_isTrimmed_366 : decode cL_isTrimmed 366 = .ok (.iload_n 3, 1) := by decide +kernel
theorem dL_isTrimmed_367 : decode cL_isTrimmed 367 = .ok (.ifCond .ne 7, 3) := by decide +kernel
theorem dL_isTrimmed_370 : decode cL_isTrimmed 370 = .ok (.iconst 1, 1) := by decide +kernel
theorem dL_isTrimmed_371 : decode cL_isTrimmed 371 = .ok (.goto 4, 3) := by decide +kernel
theorem dL_isTrimmed_374 : decode cL_isTrimmed 374 = .ok (.iconst 0, 1) := by decide +kernel
theorem dL_isTrimmed_375 : decode cL_isTrimmed 375 = .ok (.ireturn, 1) := by decide +kernel
set_option maxRecDepth 20000 in
theorem ggL_isBack_X7_answer : GoodIn wsL_isBack wsX7_answer := goodIn_ca (goodIn_ca (goodIn_g _ [(6, 7), (5, 1), (13, 140), (544, 28)] (by exact rfl) (by decide +kernel)) (goodIn_sub (fun _ h => List.mem_cons_of_mem _ (List.mem_append_left _ (List.mem_append_left _ (List.mem_append_right _ h)))) (by decide +kernel))) (goodIn_sub (fun _ h => List.mem_cons_of_mem _ (List.mem_append_left _ (List.mem_append_right _ h))) (by decide +kernel))
set_option maxRecDepth 20000 in
theorem gL_isBack_X7_answer : GoodIn wsL_isBack (wsV RL 86 RX7 yX7_answer wsX7_answer) := goodIn_app (goodIn_of _ (by decide +kernel)) ggL_isBack_X7_answer
set_option maxRecDepth 20000 in
theorem ggL_isBack_X7_clear : GoodIn wsL_isBack wsX7_clear := goodIn_g _ [(156, 1), (26, 1), (544, 8)] (by exact rfl) (by decide +kernel)
set_option maxRecDepth 20000 in
theorem gL_isBack_X7_clear : GoodIn wsL_isBack (wsV RL 90 RX7 yX7_clear wsX7_clear) := goodIn_app (goodIn_of _ (by decide +kernel)) ggL_isBack_X7_clear
set_option maxRecDepth 20000 in
theorem ggL_isBack_L_on : GoodIn wsL_isBack wsL_on := goodIn_ca (goodIn_ca (goodIn_ca (goodIn_g _ [(160, 6), (159, 1), (166, 4), (5, 1), (170, 1), (7, 2), (171, 13), (34, 3), (184, 22), (16, 1), (24, 1), (206, 21), (56, 2), (62, 2), (227, 23), (40, 3), (250, 23), (60, 2), (58, 2), (273, 4), (26, 1), (25, 1), (277, 9), (10, 6), (286, 9), (72, 2), (295, 229), (17, 3), (524, 16), (544, 8), (572, 13), (566, 6), (585, 17)] (by exact rfl) (by decide +kernel)) (goodIn_sub (fun _ h => List.mem_cons_of_mem _ (List.mem_append_left _ (List.mem_append_left _ (List.mem_append_right _ h)))) (by decide +kernel))) (goodIn_sub (fun _ h => List.mem_cons_of_mem _ (List.mem_append_right _ h)) (by decide +kernel))) (goodIn_sub (fun _ h => List.mem_cons_of_mem _ (List.mem_append_left _ (List.mem_append_right _ h))) (by decide +kernel))
set_option maxRecDepth 20000 in
theorem gL_isBack_L_on : GoodIn wsL_isBack (va_wsS RL 93 yL_on wsL_on) := goodIn_app (goodIn_of _ (by decide +kernel)) ggL_isBack_L_on
set_option maxRecDepth 20000 in
theorem ggL_isBack_X7_answers : GoodIn wsL_isBack wsX7_answers := goodIn_ca (goodIn_g _ [(543, 1), (9, 4), (5, 1), (13, 4), (20, 129), (544, 28)] (by exact rfl) (by decide +kernel)) (goodIn_sub (fun _ h => List.mem_cons_of_mem _ (List.mem_append_left _ (List.mem_append_right _ h))) (by decide +kernel))
set_option maxRecDepth 20000 in
theorem gL_isBack_X7_answers : GoodIn wsL_isBack (wsV RL 96 RX7 yX7_answers wsX7_answers) := goodIn_app (goodIn_of _ (by decide +kernel)) ggL_isBack_X7_answers
theorem dL_isBack_0 : decode cL_isBack 0 = .ok (.bipush 8, 2) := by decide +kernel
theorem dL_isBack_2 : decode cL_isBack 2 = .ok (.newarray .int, 2) := by decide +kernel
theorem dL_isBack_4 : decode cL_isBack 4 = .ok (.astore 6, 2) := by decide +kernel
theorem dL_isBack_6 : decode cL_isBack 6 = .ok (.iconst 0, 1) := by decide +kernel
theorem dL_isBack_7 : decode cL_isBack 7 = .ok (.istore 7, 2) := by decide +kernel
theorem dL_isBack_9 : decode cL_isBack 9 = .ok (.iload 7, 2) := by decide +kernel
theorem dL_isBack_11 : decode cL_isBack 11 = .ok (.bipush 9, 2) := by decide +kernel
theorem dL_isBack_13 : decode cL_isBack 13 = .ok (.if_icmp .ge 23, 3) := by decide +kernel
theorem dL_isBack_16 : decode cL_isBack 16 = .ok (.aload_n 0, 1) := by decide +kernel
theorem dL_isBack_17 : decode cL_isBack 17 = .ok (.iload_n 1, 1) := by decide +kernel
theorem dL_isBack_18 : decode cL_isBack 18 = .ok (.iload_n 2, 1) := by decide +kernel
theorem dL_isBack_19 : decode cL_isBack 19 = .ok (.iload_n 3, 1) := by decide +kernel
theorem dL_isBack_20 : decode cL_isBack 20 = .ok (.iload 7, 2) := by decide +kernel
theorem dL_isBack_22 : decode cL_isBack 22 = .ok (.invokevirtual 86, 3) := by decide +kernel
theorem dL_isBack_25 : decode cL_isBack 25 = .ok (.bipush 8, 2) := by decide +kernel
theorem dL_isBack_27 : decode cL_isBack 27 = .ok (.if_icmp .ge 9, 3) := by decide +kernel
theorem dL_isBack_30 : decode cL_isBack 30 = .ok (.iinc 7 1, 3) := by decide +kernel
theorem dL_isBack_33 : decode cL_isBack 33 = .ok (.goto (-24), 3) := by decide +kernel
theorem dL_isBack_36 : decode cL_isBack 36 = .ok (.iload 7, 2) := by decide +kernel
theorem dL_isBack_38 : decode cL_isBack 38 = .ok (.bipush 8, 2) := by decide +kernel
theorem dL_isBack_40 : decode cL_isBack 40 = .ok (.if_icmp .le 5, 3) := by decide +kernel
theorem dL_isBack_43 : decode cL_isBack 43 = .ok (.iconst 1, 1) := by decide +kernel
theorem dL_isBack_44 : decode cL_isBack 44 = .ok (.ireturn, 1) := by decide +kernel
theorem dL_isBack_45 : decode cL_isBack 45 = .ok (.iconst 0, 1) := by decide +kernel
theorem dL_isBack_46 : decode cL_isBack 46 = .ok (.istore 8, 2) := by decide +kernel
theorem dL_isBack_48 : decode cL_isBack 48 = .ok (.iload 8, 2) := by decide +kernel
theorem dL_isBack_50 : decode cL_isBack 50 = .ok (.iload 7, 2) := by decide +kernel
theorem dL_isBack_52 : decode cL_isBack 52 = .ok (.if_icmp .ge 23, 3) := by decide +kernel
theorem dL_isBack_55 : decode cL_isBack 55 = .ok (.aload 6, 2) := by decide +kernel
theorem dL_isBack_57 : decode cL_isBack 57 = .ok (.iload 8, 2) := by decide +kernel
theorem dL_isBack_59 : decode cL_isBack 59 = .ok (.aload_n 0, 1) := by decide +kernel
theorem dL_isBack_60 : decode cL_isBack 60 = .ok (.iload_n 1, 1) := by decide +kernel
theorem dL_isBack_61 : decode cL_isBack 61 = .ok (.iload_n 2, 1) := by decide +kernel
theorem dL_isBack_62 : decode cL_isBack 62 = .ok (.iload_n 3, 1) := by decide +kernel
theorem dL_isBack_63 : decode cL_isBack 63 = .ok (.iload 8, 2) := by decide +kernel
theorem dL_isBack_65 : decode cL_isBack 65 = .ok (.invokevirtual 86, 3) := by decide +kernel
theorem dL_isBack_68 : decode cL_isBack 68 = .ok (.iastore, 1) := by decide +kernel
theorem dL_isBack_69 : decode cL_isBack 69 = .ok (.iinc 8 1, 3) := by decide +kernel
theorem dL_isBack_72 : decode cL_isBack 72 = .ok (.goto (-24), 3) := by decide +kernel
theorem dL_isBack_75 : decode cL_isBack 75 = .ok (.aload_n 0, 1) := by decide +kernel
theorem dL_isBack_76 : decode cL_isBack 76 = .ok (.invokevirtual 90, 3) := by decide +kernel
theorem dL_isBack_79 : decode cL_isBack 79 = .ok (.iload 5, 2) := by decide +kernel
theorem dL_isBack_81 : decode cL_isBack 81 = .ok (.if_icmp .ne 7, 3) := by decide +kernel
theorem dL_isBack_84 : decode cL_isBack 84 = .ok (.iconst 1, 1) := by decide +kernel
theorem dL_isBack_85 : decode cL_isBack 85 = .ok (.goto 4, 3) := by decide +kernel
theorem dL_isBack_88 : decode cL_isBack 88 = .ok (.iconst 0, 1) := by decide +kernel
theorem dL_isBack_89 : decode cL_isBack 89 = .ok (.istore 8, 2) := by decide +kernel
theorem dL_isBack_91 : decode cL_isBack 91 = .ok (.iconst 0, 1) := by decide +kernel
theorem dL_isBack_92 : decode cL_isBack 92 = .ok (.istore 9, 2) := by decide +kernel
theorem dL_isBack_94 : decode cL_isBack 94 = .ok (.iload 9, 2) := by decide +kernel
theorem dL_isBack_96 : decode cL_isBack 96 = .ok (.iload 7, 2) := by decide +kernel
theorem dL_isBack_98 : decode cL_isBack 98 = .ok (.if_icmp .ge 43, 3) := by decide +kernel
theorem dL_isBack_101 : decode cL_isBack 101 = .ok (.iload 8, 2) := by decide +kernel
theorem dL_isBack_103 : decode cL_isBack 103 = .ok (.ifCond .eq 38, 3) := by decide +kernel
theorem dL_isBack_106 : decode cL_isBack 106 = .ok (.aload_n 0, 1) := by decide +kernel
theorem dL_isBack_107 : decode cL_isBack 107 = .ok (.bipush 13, 2) := by decide +kernel
theorem dL_isBack_109 : decode cL_isBack 109 = .ok (.aload 6, 2) := by decide +kernel
theorem dL_isBack_111 : decode cL_isBack 111 = .ok (.iload 9, 2) := by decide +kernel
theorem dL_isBack_113 : decode cL_isBack 113 = .ok (.iaload, 1) := by decide +kernel
theorem dL_isBack_114 : decode cL_isBack 114 = .ok (.iconst 0, 1) := by decide +kernel
theorem dL_isBack_115 : decode cL_isBack 115 = .ok (.iconst 0, 1) := by decide +kernel
theorem dL_isBack_116 : decode cL_isBack 116 = .ok (.iconst 0, 1) := by decide +kernel
theorem dL_isBack_117 : decode cL_isBack 117 = .ok (.iconst 0, 1) := by decide +kernel
theorem dL_isBack_118 : decode cL_isBack 118 = .ok (.invokestatic 93, 3) := by decide +kernel
theorem dL_isBack_121 : decode cL_isBack 121 = .ok (.iload 9, 2) := by decide +kernel
theorem dL_isBack_123 : decode cL_isBack 123 = .ok (.iconst 1, 1) := by decide +kernel
theorem dL_isBack_124 : decode cL_isBack 124 = .ok (.iadd, 1) := by decide +kernel
theorem dL_isBack_125 : decode cL_isBack 125 = .ok (.if_icmp .ne 7, 3) := by decide +kernel
theorem dL_isBack_128 : decode cL_isBack 128 = .ok (.iconst 1, 1) := by decide +kernel
theorem dL_isBack_129 : decode cL_isBack 129 = .ok (.goto 4, 3) := by decide +kernel
theorem dL_isBack_132 : decode cL_isBack 132 = .ok (.iconst 0, 1) := by decide +kernel
theorem dL_isBack_133 : decode cL_isBack 133 = .ok (.istore 8, 2) := by decide +kernel
theorem dL_isBack_135 : decode cL_isBack 135 = .ok (.iinc 9 1, 3) := by decide +kernel
theorem dL_isBack_138 : decode cL_isBack 138 = .ok (.goto (-44), 3) := by decide +kernel
theorem dL_isBack_141 : decode cL_isBack 141 = .ok (.aload_n 0, 1) := by decide +kernel
theorem dL_isBack_142 : decode cL_isBack 142 = .ok (.iload_n 1, 1) := by decide +kernel
theorem dL_isBack_143 : decode cL_isBack 143 = .ok (.iload_n 2, 1) := by decide +kernel
theorem dL_isBack_144 : decode cL_isBack 144 = .ok (.ifCond .ne 7, 3) := by decide +kernel
theorem dL_isBack_147 : decode cL_isBack 147 = .ok (.iconst 1, 1) := by decide +kernel
theorem dL_isBack_148 : decode cL_isBack 148 = .ok (.goto 4, 3) := by decide +kernel
theorem dL_isBack_151 : decode cL_isBack 151 = .ok (.iconst 0, 1) := by decide +kernel
theorem dL_isBack_152 : decode cL_isBack 152 = .ok (.invokevirtual 96, 3) := by decide +kernel
theorem dL_isBack_155 : decode cL_isBack 155 = .ok (.istore 9, 2) := by decide +kernel
theorem dL_isBack_157 : decode cL_isBack 157 = .ok (.iload 9, 2) := by decide +kernel
theorem dL_isBack_159 : decode cL_isBack 159 = .ok (.bipush 20, 2) := by decide +kernel
theorem dL_isBack_161 : decode cL_isBack 161 = .ok (.if_icmp .ne 7, 3) := by decide +kernel
theorem dL_isBack_164 : decode cL_isBack 164 = .ok (.iconst 1, 1) := by decide +kernel
theorem dL_isBack_165 : decode cL_isBack 165 = .ok (.goto 4, 3) := by decide +kernel
theorem dL_isBack_168 : decode cL_isBack 168 = .ok (.iconst 0, 1) := by decide +kernel
theorem dL_isBack_169 : decode cL_isBack 169 = .ok (.istore 10, 2) := by decide +kernel
theorem dL_isBack_171 : decode cL_isBack 171 = .ok (.iconst 0, 1) := by decide +kernel
theorem dL_isBack_172 : decode cL_isBack 172 = .ok (.istore 11, 2) := by decide +kernel
theorem dL_isBack_174 : decode cL_isBack 174 = .ok (.iload 11, 2) := by decide +kernel
theorem dL_isBack_176 : decode cL_isBack 176 = .ok (.iload 9, 2) := by decide +kernel
theorem dL_isBack_178 : decode cL_isBack 178 = .ok (.if_icmp .ge 115, 3) := by decide +kernel
theorem dL_isBack_181 : decode cL_isBack 181 = .ok (.iload 8, 2) := by decide +kernel
theorem dL_isBack_183 : decode cL_isBack 183 = .ok (.ifCond .eq 110, 3) := by decide +kernel
theorem dL_isBack_186 : decode cL_isBack 186 = .ok (.aload_n 0, 1) := by decide +kernel
theorem dL_isBack_187 : decode cL_isBack 187 = .ok (.iload_n 1, 1) := by decide +kernel
theorem dL_isBack_188 : decode cL_isBack 188 = .ok (.iload_n 2, 1) := by decide +kernel
theorem dL_isBack_189 : decode cL_isBack 189 = .ok (.ifCond .ne 7, 3) := by decide +kernel
theorem dL_isBack_192 : decode cL_isBack 192 = .ok (.iconst 1, 1) := by decide +kernel
theorem dL_isBack_193 : decode cL_isBack 193 = .ok (.goto 4, 3) := by decide +kernel
theorem dL_isBack_196 : decode cL_isBack 196 = .ok (.iconst 0, 1) := by decide +kernel
theorem dL_isBack_197 : decode cL_isBack 197 = .ok (.iload 11, 2) := by decide +kernel
theorem dL_isBack_199 : decode cL_isBack 199 = .ok (.iload 5, 2) := by decide +kernel
theorem dL_isBack_201 : decode cL_isBack 201 = .ok (.invokevirtual 86, 3) := by decide +kernel
theorem dL_isBack_204 : decode cL_isBack 204 = .ok (.bipush 8, 2) := by decide +kernel
theorem dL_isBack_206 : decode cL_isBack 206 = .ok (.if_icmp .ne 7, 3) := by decide +kernel
theorem dL_isBack_209 : decode cL_isBack 209 = .ok (.iconst 1, 1) := by decide +kernel
theorem dL_isBack_210 : decode cL_isBack 210 = .ok (.goto 4, 3) := by decide +kernel
theorem dL_isBack_213 : decode cL_isBack 213 = .ok (.iconst 0, 1) := by decide +kernel
theorem dL_isBack_214 : decode cL_isBack 214 = .ok (.istore 12, 2) := by decide +kernel
theorem dL_isBack_216 : decode cL_isBack 216 = .ok (.iconst 0, 1) := by decide +kernel
theorem dL_isBack_217 : decode cL_isBack 217 = .ok (.istore 13, 2) := by decide +kernel
theorem dL_isBack_219 : decode cL_isBack 219 = .ok (.iload 13, 2) := by decide +kernel
theorem dL_isBack_221 : decode cL_isBack 221 = .ok (.iload 5, 2) := by decide +kernel
theorem dL_isBack_223 : decode cL_isBack 223 = .ok (.if_icmp .ge 47, 3) := by decide +kernel
theorem dL_isBack_226 : decode cL_isBack 226 = .ok (.iload 12, 2) := by decide +kernel
theorem dL_isBack_228 : decode cL_isBack 228 = .ok (.ifCond .eq 42, 3) := by decide +kernel
theorem dL_isBack_231 : decode cL_isBack 231 = .ok (.aload_n 0, 1) := by decide +kernel
theorem dL_isBack_232 : decode cL_isBack 232 = .ok (.iload_n 1, 1) := by decide +kernel
theorem dL_isBack_233 : decode cL_isBack 233 = .ok (.iload_n 2, 1) := by decide +kernel
theorem dL_isBack_234 : decode cL_isBack 234 = .ok (.ifCond .ne 7, 3) := by decide +kernel
theorem dL_isBack_237 : decode cL_isBack 237 = .ok (.iconst 1, 1) := by decide +kernel
theorem dL_isBack_238 : decode cL_isBack 238 = .ok (.goto 4, 3) := by decide +kernel
theorem dL_isBack_241 : decode cL_isBack 241 = .ok (.iconst 0, 1) := by decide +kernel
theorem dL_isBack_242 : decode cL_isBack 242 = .ok (.iload 11, 2) := by decide +kernel
theorem dL_isBack_244 : decode cL_isBack 244 = .ok (.iload 13, 2) := by decide +kernel
theorem dL_isBack_246 : decode cL_isBack 246 = .ok (.invokevirtual 86, 3) := by decide +kernel
theorem dL_isBack_249 : decode cL_isBack 249 = .ok (.aload 4, 2) := by decide +kernel
theorem dL_isBack_251 : decode cL_isBack 251 = .ok (.iload 13, 2) := by decide +kernel
theorem dL_isBack_253 : decode cL_isBack 253 = .ok (.iaload, 1) := by decide +kernel
theorem dL_isBack_254 : decode cL_isBack 254 = .ok (.if_icmp .ne 7, 3) := by decide +kernel
theorem dL_isBack_257 : decode cL_isBack 257 = .ok (.iconst 1, 1) := by decide +kernel
theorem dL_isBack_258 : decode cL_isBack 258 = .ok (.goto 4, 3) := by decide +kernel
theorem dL_isBack_261 : decode cL_isBack 261 = .ok (.iconst 0, 1) := by decide +kernel
theorem dL_isBack_262 : decode cL_isBack 262 = .ok (.istore 12, 2) := by decide +kernel
theorem dL_isBack_264 : decode cL_isBack 264 = .ok (.iinc 13 1, 3) := by decide +kernel
theorem dL_isBack_267 : decode cL_isBack 267 = .ok (.goto (-48), 3) := by decide +kernel
theorem dL_isBack_270 : decode cL_isBack 270 = .ok (.iload 10, 2) := by decide +kernel
theorem dL_isBack_272 : decode cL_isBack 272 = .ok (.ifCond .ne 8, 3) := by decide +kernel
theorem dL_isBack_275 : decode cL_isBack 275 = .ok (.iload 12, 2) := by decide +kernel
theorem dL_isBack_277 : decode cL_isBack 277 = .ok (.ifCond .eq 7, 3) := by decide +kernel
theorem dL_isBack_280 : decode cL_isBack 280 = .ok (.iconst 1, 1) := by decide +kernel
theorem dL_isBack_281 : decode cL_isBack 281 = .ok (.goto 4, 3) := by decide +kernel
theorem dL_isBack_284 : decode cL_isBack 284 = .ok (.iconst 0, 1) := by decide +kernel
theorem dL_isBack_285 : decode cL_isBack 285 = .ok (.istore 10, 2) := by decide +kernel
theorem dL_isBack_287 : decode cL_isBack 287 = .ok (.iinc 11 1, 3) := by decide +kernel
theorem dL_isBack_290 : decode cL_isBack 290 = .ok (.goto (-116), 3) := by decide +kernel
theorem dL_isBack_293 : decode cL_isBack 293 = .ok (.iload 8, 2) := by decide +kernel
theorem dL_isBack_295 : decode cL_isBack 295 = .ok (.ifCond .eq 21, 3) := by decide +kernel
theorem dL_isBack_298 : decode cL_isBack 298 = .ok (.iload 10, 2) := by decide +kernel
theorem dL_isBack_300 : decode cL_isBack 300 = .ok (.ifCond .eq 16, 3) := by decide +kernel
theorem dL_isBack_303 : decode cL_isBack 303 = .ok (.aload_n 0, 1) := by decide +kernel
theorem dL_isBack_304 : decode cL_isBack 304 = .ok (.invokevirtual 90, 3) := by decide +kernel
theorem dL_isBack_307 : decode cL_isBack 307 = .ok (.iload 7, 2) := by decide +kernel
theorem dL_isBack_309 : decode cL_isBack 309 = .ok (.if_icmp .ne 7, 3) := by decide +kernel
theorem dL_isBack_312 : decode cL_isBack 312 = .ok (.iconst 1, 1) := by decide +kernel
theorem dL_isBack_313 : decode cL_isBack 313 = .ok (.goto 4, 3) := by decide +kernel
theorem dL_isBack_316 : decode cL_isBack 316 = .ok (.iconst 0, 1) := by decide +kernel
theorem dL_isBack_317 : decode cL_isBack 317 = .ok (.istore 8, 2) := by decide +kernel
theorem dL_isBack_319 : decode cL_isBack 319 = .ok (.iconst 0, 1) := by decide +kernel
theorem dL_isBack_320 : decode cL_isBack 320 = .ok (.istore 11, 2) := by decide +kernel
theorem dL_isBack_322 : decode cL_isBack 322 = .ok (.iload 11, 2) := by decide +kernel
theorem dL_isBack_324 : decode cL_isBack 324 = .ok (.iload 5, 2) := by decide +kernel
theorem dL_isBack_326 : decode cL_isBack 326 = .ok (.if_icmp .ge 43, 3) := by decide +kernel
theorem dL_isBack_329 : decode cL_isBack 329 = .ok (.iload 8, 2) := by decide +kernel
theorem dL_isBack_331 : decode cL_isBack 331 = .ok (.ifCond .eq 38, 3) := by decide +kernel
theorem dL_isBack_334 : decode cL_isBack 334 = .ok (.aload_n 0, 1) := by decide +kernel
theorem dL_isBack_335 : decode cL_isBack 335 = .ok (.bipush 13, 2) := by decide +kernel
theorem dL_isBack_337 : decode cL_isBack 337 = .ok (.aload 4, 2) := by decide +kernel
theorem dL_isBack_339 : decode cL_isBack 339 = .ok (.iload 11, 2) := by decide +kernel
theorem dL_isBack_341 : decode cL_isBack 341 = .ok (.iaload, 1) := by decide +kernel
theorem dL_isBack_342 : decode cL_isBack 342 = .ok (.iconst 0, 1) := by decide +kernel
theorem dL_isBack_343 : decode cL_isBack 343 = .ok (.iconst 0, 1) := by decide +kernel
theorem dL_isBack_344 : decode cL_isBack 344 = .ok (.iconst 0, 1) := by decide +kernel
theorem dL_isBack_345 : decode cL_isBack 345 = .ok (.iconst 0, 1) := by decide +kernel
theorem dL_isBack_346 : decode cL_isBack 346 = .ok (.invokestatic 93, 3) := by decide +kernel
theorem dL_isBack_349 : decode cL_isBack 349 = .ok (.iload 11, 2) := by decide +kernel
theorem dL_isBack_351 : decode cL_isBack 351 = .ok (.iconst 1, 1) := by decide +kernel
theorem dL_isBack_352 : decode cL_isBack 352 = .ok (.iadd, 1) := by decide +kernel
theorem dL_isBack_353 : decode cL_isBack 353 = .ok (.if_icmp .ne 7, 3) := by decide +kernel
theorem dL_isBack_356 : decode cL_isBack 356 = .ok (.iconst 1, 1) := by decide +kernel
theorem dL_isBack_357 : decode cL_isBack 357 = .ok (.goto 4, 3) := by decide +kernel
theorem dL_isBack_360 : decode cL_isBack 360 = .ok (.iconst 0, 1) := by decide +kernel
theorem dL_isBack_361 : decode cL_isBack 361 = .ok (.istore 8, 2) := by decide +kernel
theorem dL_isBack_363 : decode cL_isBack 363 = .ok (.iinc 11 1, 3) := by decide +kernel
theorem dL_isBack_366 : decode cL_isBack 366 = .ok (.goto (-44), 3) := by decide +kernel
theorem dL_isBack_369 : decode cL_isBack 369 = .ok (.iload 8, 2) := by decide +kernel
theorem dL_isBack_371 : decode cL_isBack 371 = .ok (.ireturn, 1) := by decide +kernel
set_option maxRecDepth 20000 in
theorem ggL_areAnswers_X7_answers : GoodIn wsL_areAnswers wsX7_answers := goodIn_ca (goodIn_g _ [(5, 5), (4, 1), (10, 133), (168, 28)] (by exact rfl) (by decide +kernel)) (goodIn_sub (fun _ h => List.mem_cons_of_mem _ (List.mem_append_left _ (List.mem_append_right _ h))) (by decide +kernel))
set_option maxRecDepth 20000 in
theorem gL_areAnswers_X7_answers : GoodIn wsL_areAnswers (wsV RL 96 RX7 yX7_answers wsX7_answers) := goodIn_app (goodIn_of _ (by decide +kernel)) ggL_areAnswers_X7_answers
set_option maxRecDepth 20000 in
theorem ggL_areAnswers_X7_cost : GoodIn wsL_areAnswers wsX7_cost := goodIn_ca (goodIn_g _ [(146, 1), (6, 4), (4, 1), (10, 86), (147, 4), (168, 28)] (by exact rfl) (by decide +kernel)) (goodIn_sub (fun _ h => List.mem_cons_of_mem _ (List.mem_append_left _ (List.mem_append_right _ h))) (by decide +kernel))
set_option maxRecDepth 20000 in
theorem gL_areAnswers_X7_cost : GoodIn wsL_areAnswers (wsV RL 99 RX7 yX7_cost wsX7_cost) := goodIn_app (goodIn_of _ (by decide +kernel)) ggL_areAnswers_X7_cost
set_option maxRecDepth 20000 in
theorem ggL_areAnswers_X7_best : GoodIn wsL_areAnswers wsX7_best := goodIn_ca (goodIn_g _ [(154, 1), (6, 4), (4, 1), (10, 4), (155, 3), (14, 129), (158, 4), (168, 28)] (by exact rfl) (by decide +kernel)) (goodIn_sub (fun _ h => List.mem_cons_of_mem _ (List.mem_append_left _ (List.mem_append_right _ h))) (by decide +kernel))
set_option maxRecDepth 20000 in
theorem gL_areAnswers_X7_best : GoodIn wsL_areAnswers (wsV RL 102 RX7 yX7_best wsX7_best) := goodIn_app (goodIn_of _ (by decide +kernel)) ggL_areAnswers_X7_best
set_option maxRecDepth 20000 in
theorem ggL_areAnswers_X7_answer : GoodIn wsL_areAnswers wsX7_answer := goodIn_ca (goodIn_ca (goodIn_g _ [(165, 3), (6, 4), (4, 1), (10, 4), (155, 3), (14, 129), (158, 4), (168, 28)] (by exact rfl) (by decide +kernel)) (goodIn_sub (fun _ h => List.mem_cons_of_mem _ (List.mem_append_right _ h)) (by decide +kernel))) (goodIn_sub (fun _ h => List.mem_cons_of_mem _ (List.mem_append_left _ (List.mem_append_right _ h))) (by decide +kernel))
set_option maxRecDepth 20000 in
theorem gL_areAnswers_X7_answer : GoodIn wsL_areAnswers (wsV RL 86 RX7 yX7_answer wsX7_answer) := goodIn_app (goodIn_of _ (by decide +kernel)) ggL_areAnswers_X7_answer
theorem dL_areAnswers_0 : decode cL_areAnswers 0 = .ok (.aload_n 0, 1) := by decide +kernel
theorem dL_areAnswers_1 : decode cL_areAnswers 1 = .ok (.iload_n 1, 1) := by decide +kernel
theorem dL_areAnswers_2 : decode cL_areAnswers 2 = .ok (.iload_n 2, 1) := by decide +kernel
theorem dL_areAnswers_3 : decode cL_areAnswers 3 = .ok (.invokevirtual 96, 3) := by decide +kernel
theorem dL_areAnswers_6 : decode cL_areAnswers 6 = .ok (.istore_n 3, 1) := by decide +kernel
theorem dL_areAnswers_7 : decode cL_areAnswers 7 = .ok (.iload_n 3, 1) := by decide +kernel
theorem dL_areAnswers_8 : decode cL_areAnswers 8 = .ok (.ifCond .ne 7, 3) := by decide +kernel
theorem dL_areAnswers_11 : decode cL_areAnswers 11 = .ok (.iconst 1, 1) := by decide +kernel
theorem dL_areAnswers_12 : decode cL_areAnswers 12 = .ok (.goto 4, 3) := by decide +kernel
theorem dL_areAnswers_15 : decode cL_areAnswers 15 = .ok (.iconst 0, 1) := by decide +kernel
theorem dL_areAnswers_16 : decode cL_areAnswers 16 = .ok (.aload_n 0, 1) := by decide +kernel
theorem dL_areAnswers_17 : decode cL_areAnswers 17 = .ok (.iload_n 1, 1) := by decide +kernel
theorem dL_areAnswers_18 : decode cL_areAnswers 18 = .ok (.iload_n 2, 1) := by decide +kernel
theorem dL_areAnswers_19 : decode cL_areAnswers 19 = .ok (.invokevirtual 99, 3) := by decide +kernel
theorem dL_areAnswers_22 : decode cL_areAnswers 22 = .ok (.iconst (-1), 1) := by decide +kernel
theorem dL_areAnswers_23 : decode cL_areAnswers 23 = .ok (.if_icmp .ne 7, 3) := by decide +kernel
theorem dL_areAnswers_26 : decode cL_areAnswers 26 = .ok (.iconst 1, 1) := by decide +kernel
theorem dL_areAnswers_27 : decode cL_areAnswers 27 = .ok (.goto 4, 3) := by decide +kernel
theorem dL_areAnswers_30 : decode cL_areAnswers 30 = .ok (.iconst 0, 1) := by decide +kernel
theorem dL_areAnswers_31 : decode cL_areAnswers 31 = .ok (.if_icmp .ne 35, 3) := by decide +kernel
theorem dL_areAnswers_34 : decode cL_areAnswers 34 = .ok (.iload_n 3, 1) := by decide +kernel
theorem dL_areAnswers_35 : decode cL_areAnswers 35 = .ok (.ifCond .ne 7, 3) := by decide +kernel
theorem dL_areAnswers_38 : decode cL_areAnswers 38 = .ok (.iconst 1, 1) := by decide +kernel
theorem dL_areAnswers_39 : decode cL_areAnswers 39 = .ok (.goto 4, 3) := by decide +kernel
theorem dL_areAnswers_42 : decode cL_areAnswers 42 = .ok (.iconst 0, 1) := by decide +kernel
theorem dL_areAnswers_43 : decode cL_areAnswers 43 = .ok (.aload_n 0, 1) := by decide +kernel
theorem dL_areAnswers_44 : decode cL_areAnswers 44 = .ok (.iload_n 1, 1) := by decide +kernel
theorem dL_areAnswers_45 : decode cL_areAnswers 45 = .ok (.iload_n 2, 1) := by decide +kernel
theorem dL_areAnswers_46 : decode cL_areAnswers 46 = .ok (.iconst 0, 1) := by decide +kernel
theorem dL_areAnswers_47 : decode cL_areAnswers 47 = .ok (.invokevirtual 102, 3) := by decide +kernel
theorem dL_areAnswers_50 : decode cL_areAnswers 50 = .ok (.iconst (-1), 1) := by decide +kernel
theorem dL_areAnswers_51 : decode cL_areAnswers 51 = .ok (.if_icmp .ne 7, 3) := by decide +kernel
theorem dL_areAnswers_54 : decode cL_areAnswers 54 = .ok (.iconst 1, 1) := by decide +kernel
theorem dL_areAnswers_55 : decode cL_areAnswers 55 = .ok (.goto 4, 3) := by decide +kernel
theorem dL_areAnswers_58 : decode cL_areAnswers 58 = .ok (.iconst 0, 1) := by decide +kernel
theorem dL_areAnswers_59 : decode cL_areAnswers 59 = .ok (.if_icmp .ne 7, 3) := by decide +kernel
theorem dL_areAnswers_62 : decode cL_areAnswers 62 = .ok (.iconst 1, 1) := by decide +kernel
theorem dL_areAnswers_63 : decode cL_areAnswers 63 = .ok (.goto 4, 3) := by decide +kernel
theorem dL_areAnswers_66 : decode cL_areAnswers 66 = .ok (.iconst 0, 1) := by decide +kernel
theorem dL_areAnswers_67 : decode cL_areAnswers 67 = .ok (.istore 4, 2) := by decide +kernel
theorem dL_areAnswers_69 : decode cL_areAnswers 69 = .ok (.iload_n 3, 1) := by decide +kernel
theorem dL_areAnswers_70 : decode cL_areAnswers 70 = .ok (.bipush 20, 2) := by decide +kernel
theorem dL_areAnswers_72 : decode cL_areAnswers 72 = .ok (.if_icmp .eq 7, 3) := by decide +kernel
theorem dL_areAnswers_75 : decode cL_areAnswers 75 = .ok (.iload_n 3, 1) := by decide +kernel
theorem dL_areAnswers_76 : decode cL_areAnswers 76 = .ok (.ifCond .ne 7, 3) := by decide +kernel
theorem dL_areAnswers_79 : decode cL_areAnswers 79 = .ok (.iconst 1, 1) := by decide +kernel
theorem dL_areAnswers_80 : decode cL_areAnswers 80 = .ok (.goto 4, 3) := by decide +kernel
theorem dL_areAnswers_83 : decode cL_areAnswers 83 = .ok (.iconst 0, 1) := by decide +kernel
theorem dL_areAnswers_84 : decode cL_areAnswers 84 = .ok (.istore 5, 2) := by decide +kernel
theorem dL_areAnswers_86 : decode cL_areAnswers 86 = .ok (.iconst 0, 1) := by decide +kernel
theorem dL_areAnswers_87 : decode cL_areAnswers 87 = .ok (.istore 6, 2) := by decide +kernel
theorem dL_areAnswers_89 : decode cL_areAnswers 89 = .ok (.iload 6, 2) := by decide +kernel
theorem dL_areAnswers_91 : decode cL_areAnswers 91 = .ok (.iload_n 3, 1) := by decide +kernel
theorem dL_areAnswers_92 : decode cL_areAnswers 92 = .ok (.if_icmp .ge 258, 3) := by decide +kernel
theorem dL_areAnswers_95 : decode cL_areAnswers 95 = .ok (.iload 4, 2) := by decide +kernel
theorem dL_areAnswers_97 : decode cL_areAnswers 97 = .ok (.ifCond .eq 253, 3) := by decide +kernel
theorem dL_areAnswers_100 : decode cL_areAnswers 100 = .ok (.iconst 1, 1) := by decide +kernel
theorem dL_areAnswers_101 : decode cL_areAnswers 101 = .ok (.istore 7, 2) := by decide +kernel
theorem dL_areAnswers_103 : decode cL_areAnswers 103 = .ok (.iconst 0, 1) := by decide +kernel
theorem dL_areAnswers_104 : decode cL_areAnswers 104 = .ok (.istore 8, 2) := by decide +kernel
theorem dL_areAnswers_106 : decode cL_areAnswers 106 = .ok (.iload 8, 2) := by decide +kernel
theorem dL_areAnswers_108 : decode cL_areAnswers 108 = .ok (.bipush 12, 2) := by decide +kernel
theorem dL_areAnswers_110 : decode cL_areAnswers 110 = .ok (.if_icmp .ge 70, 3) := by decide +kernel
theorem dL_areAnswers_113 : decode cL_areAnswers 113 = .ok (.iload 7, 2) := by decide +kernel
theorem dL_areAnswers_115 : decode cL_areAnswers 115 = .ok (.ifCond .eq 65, 3) := by decide +kernel
theorem dL_areAnswers_118 : decode cL_areAnswers 118 = .ok (.aload_n 0, 1) := by decide +kernel
theorem dL_areAnswers_119 : decode cL_areAnswers 119 = .ok (.iload_n 1, 1) := by decide +kernel
theorem dL_areAnswers_120 : decode cL_areAnswers 120 = .ok (.iload_n 2, 1) := by decide +kernel
theorem dL_areAnswers_121 : decode cL_areAnswers 121 = .ok (.iload 6, 2) := by decide +kernel
theorem dL_areAnswers_123 : decode cL_areAnswers 123 = .ok (.iload 8, 2) := by decide +kernel
theorem dL_areAnswers_125 : decode cL_areAnswers 125 = .ok (.invokevirtual 86, 3) := by decide +kernel
theorem dL_areAnswers_128 : decode cL_areAnswers 128 = .ok (.istore 9, 2) := by decide +kernel
theorem dL_areAnswers_130 : decode cL_areAnswers 130 = .ok (.iload 9, 2) := by decide +kernel
theorem dL_areAnswers_132 : decode cL_areAnswers 132 = .ok (.aload_n 0, 1) := by decide +kernel
theorem dL_areAnswers_133 : decode cL_areAnswers 133 = .ok (.iload_n 1, 1) := by decide +kernel
theorem dL_areAnswers_134 : decode cL_areAnswers 134 = .ok (.iload_n 2, 1) := by decide +kernel
theorem dL_areAnswers_135 : decode cL_areAnswers 135 = .ok (.iload 8, 2) := by decide +kernel
theorem dL_areAnswers_137 : decode cL_areAnswers 137 = .ok (.invokevirtual 102, 3) := by decide +kernel
theorem dL_areAnswers_140 : decode cL_areAnswers 140 = .ok (.if_icmp .ne 7, 3) := by decide +kernel
theorem dL_areAnswers_143 : decode cL_areAnswers 143 = .ok (.iconst 1, 1) := by decide +kernel
theorem dL_areAnswers_144 : decode cL_areAnswers 144 = .ok (.goto 4, 3) := by decide +kernel
theorem dL_areAnswers_147 : decode cL_areAnswers 147 = .ok (.iconst 0, 1) := by decide +kernel
theorem dL_areAnswers_148 : decode cL_areAnswers 148 = .ok (.istore 7, 2) := by decide +kernel
theorem dL_areAnswers_150 : decode cL_areAnswers 150 = .ok (.iload 4, 2) := by decide +kernel
theorem dL_areAnswers_152 : decode cL_areAnswers 152 = .ok (.ifCond .eq 19, 3) := by decide +kernel
theorem dL_areAnswers_155 : decode cL_areAnswers 155 = .ok (.iload 9, 2) := by decide +kernel
theorem dL_areAnswers_157 : decode cL_areAnswers 157 = .ok (.ifCond .lt 14, 3) := by decide +kernel
theorem dL_areAnswers_160 : decode cL_areAnswers 160 = .ok (.iload 9, 2) := by decide +kernel
theorem dL_areAnswers_162 : decode cL_areAnswers 162 = .ok (.bipush 9, 2) := by decide +kernel
theorem dL_areAnswers_164 : decode cL_areAnswers 164 = .ok (.if_icmp .ge 7, 3) := by decide +kernel
theorem dL_areAnswers_167 : decode cL_areAnswers 167 = .ok (.iconst 1, 1) := by decide +kernel
theorem dL_areAnswers_168 : decode cL_areAnswers 168 = .ok (.goto 4, 3) := by decide +kernel
theorem dL_areAnswers_171 : decode cL_areAnswers 171 = .ok (.iconst 0, 1) := by decide +kernel
theorem dL_areAnswers_172 : decode cL_areAnswers 172 = .ok (.istore 4, 2) := by decide +kernel
theorem dL_areAnswers_174 : decode cL_areAnswers 174 = .ok (.iinc 8 1, 3) := by decide +kernel
theorem dL_areAnswers_177 : decode cL_areAnswers 177 = .ok (.goto (-71), 3) := by decide +kernel
theorem dL_areAnswers_180 : decode cL_areAnswers 180 = .ok (.iload 5, 2) := by decide +kernel
theorem dL_areAnswers_182 : decode cL_areAnswers 182 = .ok (.ifCond .ne 8, 3) := by decide +kernel
theorem dL_areAnswers_185 : decode cL_areAnswers 185 = .ok (.iload 7, 2) := by decide +kernel
theorem dL_areAnswers_187 : decode cL_areAnswers 187 = .ok (.ifCond .eq 7, 3) := by decide +kernel
theorem dL_areAnswers_190 : decode cL_areAnswers 190 = .ok (.iconst 1, 1) := by decide +kernel
theorem dL_areAnswers_191 : decode cL_areAnswers 191 = .ok (.goto 4, 3) := by decide +kernel
theorem dL_areAnswers_194 : decode cL_areAnswers 194 = .ok (.iconst 0, 1) := by decide +kernel
theorem dL_areAnswers_195 : decode cL_areAnswers 195 = .ok (.istore 5, 2) := by decide +kernel
theorem dL_areAnswers_197 : decode cL_areAnswers 197 = .ok (.iconst 0, 1) := by decide +kernel
theorem dL_areAnswers_198 : decode cL_areAnswers 198 = .ok (.istore 8, 2) := by decide +kernel
theorem dL_areAnswers_200 : decode cL_areAnswers 200 = .ok (.iload 6, 2) := by decide +kernel
theorem dL_areAnswers_202 : decode cL_areAnswers 202 = .ok (.ifCond .le 42, 3) := by decide +kernel
theorem dL_areAnswers_205 : decode cL_areAnswers 205 = .ok (.iload 8, 2) := by decide +kernel
theorem dL_areAnswers_207 : decode cL_areAnswers 207 = .ok (.sipush 300, 3) := by decide +kernel
theorem dL_areAnswers_210 : decode cL_areAnswers 210 = .ok (.if_icmp .ge 34, 3) := by decide +kernel
theorem dL_areAnswers_213 : decode cL_areAnswers 213 = .ok (.aload_n 0, 1) := by decide +kernel
theorem dL_areAnswers_214 : decode cL_areAnswers 214 = .ok (.iload_n 1, 1) := by decide +kernel
theorem dL_areAnswers_215 : decode cL_areAnswers 215 = .ok (.iload_n 2, 1) := by decide +kernel
theorem dL_areAnswers_216 : decode cL_areAnswers 216 = .ok (.iload 6, 2) := by decide +kernel
theorem dL_areAnswers_218 : decode cL_areAnswers 218 = .ok (.iload 8, 2) := by decide +kernel
theorem dL_areAnswers_220 : decode cL_areAnswers 220 = .ok (.invokevirtual 86, 3) := by decide +kernel
theorem dL_areAnswers_223 : decode cL_areAnswers 223 = .ok (.aload_n 0, 1) := by decide +kernel
theorem dL_areAnswers_224 : decode cL_areAnswers 224 = .ok (.iload_n 1, 1) := by decide +kernel
theorem dL_areAnswers_225 : decode cL_areAnswers 225 = .ok (.iload_n 2, 1) := by decide +kernel
theorem dL_areAnswers_226 : decode cL_areAnswers 226 = .ok (.iload 6, 2) := by decide +kernel
theorem dL_areAnswers_228 : decode cL_areAnswers 228 = .ok (.iconst 1, 1) := by decide +kernel
theorem dL_areAnswers_229 : decode cL_areAnswers 229 = .ok (.isub, 1) := by decide +kernel
theorem dL_areAnswers_230 : decode cL_areAnswers 230 = .ok (.iload 8, 2) := by decide +kernel
theorem dL_areAnswers_232 : decode cL_areAnswers 232 = .ok (.invokevirtual 86, 3) := by decide +kernel
theorem dL_areAnswers_235 : decode cL_areAnswers 235 = .ok (.if_icmp .ne 9, 3) := by decide +kernel
theorem dL_areAnswers_238 : decode cL_areAnswers 238 = .ok (.iinc 8 1, 3) := by decide +kernel
theorem dL_areAnswers_241 : decode cL_areAnswers 241 = .ok (.goto (-41), 3) := by decide +kernel
theorem dL_areAnswers_244 : decode cL_areAnswers 244 = .ok (.iload 4, 2) := by decide +kernel
theorem dL_areAnswers_246 : decode cL_areAnswers 246 = .ok (.ifCond .eq 95, 3) := by decide +kernel
theorem dL_areAnswers_249 : decode cL_areAnswers 249 = .ok (.iload 6, 2) := by decide +kernel
theorem dL_areAnswers_251 : decode cL_areAnswers 251 = .ok (.ifCond .eq 86, 3) := by decide +kernel
theorem dL_areAnswers_254 : decode cL_areAnswers 254 = .ok (.iload 8, 2) := by decide +kernel
theorem dL_areAnswers_256 : decode cL_areAnswers 256 = .ok (.sipush 300, 3) := by decide +kernel
theorem dL_areAnswers_259 : decode cL_areAnswers 259 = .ok (.if_icmp .ge 82, 3) := by decide +kernel
theorem dL_areAnswers_262 : decode cL_areAnswers 262 = .ok (.aload_n 0, 1) := by decide +kernel
theorem dL_areAnswers_263 : decode cL_areAnswers 263 = .ok (.iload_n 1, 1) := by decide +kernel
theorem dL_areAnswers_264 : decode cL_areAnswers 264 = .ok (.iload_n 2, 1) := by decide +kernel
theorem dL_areAnswers_265 : decode cL_areAnswers 265 = .ok (.iload 6, 2) := by decide +kernel
theorem dL_areAnswers_267 : decode cL_areAnswers 267 = .ok (.iload 8, 2) := by decide +kernel
theorem dL_areAnswers_269 : decode cL_areAnswers 269 = .ok (.invokevirtual 86, 3) := by decide +kernel
theorem dL_areAnswers_272 : decode cL_areAnswers 272 = .ok (.bipush 8, 2) := by decide +kernel
theorem dL_areAnswers_274 : decode cL_areAnswers 274 = .ok (.irem, 1) := by decide +kernel
theorem dL_areAnswers_275 : decode cL_areAnswers 275 = .ok (.aload_n 0, 1) := by decide +kernel
theorem dL_areAnswers_276 : decode cL_areAnswers 276 = .ok (.iload_n 1, 1) := by decide +kernel
theorem dL_areAnswers_277 : decode cL_areAnswers 277 = .ok (.iload_n 2, 1) := by decide +kernel
theorem dL_areAnswers_278 : decode cL_areAnswers 278 = .ok (.iload 6, 2) := by decide +kernel
theorem dL_areAnswers_280 : decode cL_areAnswers 280 = .ok (.iload 8, 2) := by decide +kernel
theorem dL_areAnswers_282 : decode cL_areAnswers 282 = .ok (.invokevirtual 86, 3) := by decide +kernel
theorem dL_areAnswers_285 : decode cL_areAnswers 285 = .ok (.bipush 8, 2) := by decide +kernel
theorem dL_areAnswers_287 : decode cL_areAnswers 287 = .ok (.if_icmp .ge 7, 3) := by decide +kernel
theorem dL_areAnswers_290 : decode cL_areAnswers 290 = .ok (.iconst 1, 1) := by decide +kernel
theorem dL_areAnswers_291 : decode cL_areAnswers 291 = .ok (.goto 4, 3) := by decide +kernel
theorem dL_areAnswers_294 : decode cL_areAnswers 294 = .ok (.iconst 0, 1) := by decide +kernel
theorem dL_areAnswers_295 : decode cL_areAnswers 295 = .ok (.iadd, 1) := by decide +kernel
theorem dL_areAnswers_296 : decode cL_areAnswers 296 = .ok (.aload_n 0, 1) := by decide +kernel
theorem dL_areAnswers_297 : decode cL_areAnswers 297 = .ok (.iload_n 1, 1) := by decide +kernel
theorem dL_areAnswers_298 : decode cL_areAnswers 298 = .ok (.iload_n 2, 1) := by decide +kernel
theorem dL_areAnswers_299 : decode cL_areAnswers 299 = .ok (.iload 6, 2) := by decide +kernel
theorem dL_areAnswers_301 : decode cL_areAnswers 301 = .ok (.iconst 1, 1) := by decide +kernel
theorem dL_areAnswers_302 : decode cL_areAnswers 302 = .ok (.isub, 1) := by decide +kernel
theorem dL_areAnswers_303 : decode cL_areAnswers 303 = .ok (.iload 8, 2) := by decide +kernel
theorem dL_areAnswers_305 : decode cL_areAnswers 305 = .ok (.invokevirtual 86, 3) := by decide +kernel
theorem dL_areAnswers_308 : decode cL_areAnswers 308 = .ok (.bipush 8, 2) := by decide +kernel
theorem dL_areAnswers_310 : decode cL_areAnswers 310 = .ok (.irem, 1) := by decide +kernel
theorem dL_areAnswers_311 : decode cL_areAnswers 311 = .ok (.aload_n 0, 1) := by decide +kernel
theorem dL_areAnswers_312 : decode cL_areAnswers 312 = .ok (.iload_n 1, 1) := by decide +kernel
theorem dL_areAnswers_313 : decode cL_areAnswers 313 = .ok (.iload_n 2, 1) := by decide +kernel
theorem dL_areAnswers_314 : decode cL_areAnswers 314 = .ok (.iload 6, 2) := by decide +kernel
theorem dL_areAnswers_316 : decode cL_areAnswers 316 = .ok (.iconst 1, 1) := by decide +kernel
theorem dL_areAnswers_317 : decode cL_areAnswers 317 = .ok (.isub, 1) := by decide +kernel
theorem dL_areAnswers_318 : decode cL_areAnswers 318 = .ok (.iload 8, 2) := by decide +kernel
theorem dL_areAnswers_320 : decode cL_areAnswers 320 = .ok (.invokevirtual 86, 3) := by decide +kernel
theorem dL_areAnswers_323 : decode cL_areAnswers 323 = .ok (.bipush 8, 2) := by decide +kernel
theorem dL_areAnswers_325 : decode cL_areAnswers 325 = .ok (.if_icmp .ge 7, 3) := by decide +kernel
theorem dL_areAnswers_328 : decode cL_areAnswers 328 = .ok (.iconst 1, 1) := by decide +kernel
theorem dL_areAnswers_329 : decode cL_areAnswers 329 = .ok (.goto 4, 3) := by decide +kernel
theorem dL_areAnswers_332 : decode cL_areAnswers 332 = .ok (.iconst 0, 1) := by decide +kernel
theorem dL_areAnswers_333 : decode cL_areAnswers 333 = .ok (.iadd, 1) := by decide +kernel
theorem dL_areAnswers_334 : decode cL_areAnswers 334 = .ok (.if_icmp .le 7, 3) := by decide +kernel
theorem dL_areAnswers_337 : decode cL_areAnswers 337 = .ok (.iconst 1, 1) := by decide +kernel
theorem dL_areAnswers_338 : decode cL_areAnswers 338 = .ok (.goto 4, 3) := by decide +kernel
theorem dL_areAnswers_341 : decode cL_areAnswers 341 = .ok (.iconst 0, 1) := by decide +kernel
theorem dL_areAnswers_342 : decode cL_areAnswers 342 = .ok (.istore 4, 2) := by decide +kernel
theorem dL_areAnswers_344 : decode cL_areAnswers 344 = .ok (.iinc 6 1, 3) := by decide +kernel
theorem dL_areAnswers_347 : decode cL_areAnswers 347 = .ok (.goto (-258), 3) := by decide +kernel
theorem dL_areAnswers_350 : decode cL_areAnswers 350 = .ok (.iload 4, 2) := by decide +kernel
theorem dL_areAnswers_352 : decode cL_areAnswers 352 = .ok (.ifCond .eq 12, 3) := by decide +kernel
theorem dL_areAnswers_355 : decode cL_areAnswers 355 = .ok (.iload 5, 2) := by decide +kernel
theorem dL_areAnswers_357 : decode cL_areAnswers 357 = .ok (.ifCond .eq 7, 3) := by decide +kernel
theorem dL_areAnswers_360 : decode cL_areAnswers 360 = .ok (.iconst 1, 1) := by decide +kernel
theorem dL_areAnswers_361 : decode cL_areAnswers 361 = .ok (.goto 4, 3) := by decide +kernel
theorem dL_areAnswers_364 : decode cL_areAnswers 364 = .ok (.iconst 0, 1) := by decide +kernel
theorem dL_areAnswers_365 : decode cL_areAnswers 365 = .ok (.ireturn, 1) := by decide +kernel
set_option maxRecDepth 20000 in
theorem ggL_law_X7_init : GoodIn wsL_law wsX7_init := goodIn_g _ [(9, 4), (3, 1), (13, 109), (652, 64)] (by exact rfl) (by decide +kernel)
