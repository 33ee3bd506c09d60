theorem dX8_restsOfChanges_229 : decode cX8_restsOfChanges 229 = .ok (.if_icmp .eq 50, 3) := by decide +kernel
theorem dX8_restsOfChanges_232 : decode cX8_restsOfChanges 232 = .ok (.iload 4, 2) := by decide +kernel
theorem dX8_restsOfChanges_234 : decode cX8_restsOfChanges 234 = .ok (.aload_n 0, 1) := by decide +kernel
theorem dX8_restsOfChanges_235 : decode cX8_restsOfChanges 235 = .ok (.getfield 135, 3) := by decide +kernel
theorem dX8_restsOfChanges_238 : decode cX8_restsOfChanges 238 = .ok (.if_icmp .ge 41, 3) := by decide +kernel
theorem dX8_restsOfChanges_241 : decode cX8_restsOfChanges 241 = .ok (.iload 5, 2) := by decide +kernel
theorem dX8_restsOfChanges_243 : decode cX8_restsOfChanges 243 = .ok (.aload_n 0, 1) := by decide +kernel
theorem dX8_restsOfChanges_244 : decode cX8_restsOfChanges 244 = .ok (.aload_n 0, 1) := by decide +kernel
theorem dX8_restsOfChanges_245 : decode cX8_restsOfChanges 245 = .ok (.getfield 96, 3) := by decide +kernel
theorem dX8_restsOfChanges_248 : decode cX8_restsOfChanges 248 = .ok (.bipush 32, 2) := by decide +kernel
theorem dX8_restsOfChanges_250 : decode cX8_restsOfChanges 250 = .ok (.iload 4, 2) := by decide +kernel
theorem dX8_restsOfChanges_252 : decode cX8_restsOfChanges 252 = .ok (.iconst 1, 1) := by decide +kernel
theorem dX8_restsOfChanges_253 : decode cX8_restsOfChanges 253 = .ok (.iadd, 1) := by decide +kernel
theorem dX8_restsOfChanges_254 : decode cX8_restsOfChanges 254 = .ok (.imul, 1) := by decide +kernel
theorem dX8_restsOfChanges_255 : decode cX8_restsOfChanges 255 = .ok (.aload_n 0, 1) := by decide +kernel
theorem dX8_restsOfChanges_256 : decode cX8_restsOfChanges 256 = .ok (.getfield 34, 3) := by decide +kernel
theorem dX8_restsOfChanges_259 : decode cX8_restsOfChanges 259 = .ok (.iload_n 3, 1) := by decide +kernel
theorem dX8_restsOfChanges_260 : decode cX8_restsOfChanges 260 = .ok (.iaload, 1) := by decide +kernel
theorem dX8_restsOfChanges_261 : decode cX8_restsOfChanges 261 = .ok (.iadd, 1) := by decide +kernel
theorem dX8_restsOfChanges_262 : decode cX8_restsOfChanges 262 = .ok (.iaload, 1) := by decide +kernel
theorem dX8_restsOfChanges_263 : decode cX8_restsOfChanges 263 = .ok (.aload_n 0, 1) := by decide +kernel
theorem dX8_restsOfChanges_264 : decode cX8_restsOfChanges 264 = .ok (.iload_n 3, 1) := by decide +kernel
theorem dX8_restsOfChanges_265 : decode cX8_restsOfChanges 265 = .ok (.iload 4, 2) := by decide +kernel
theorem dX8_restsOfChanges_267 : decode cX8_restsOfChanges 267 = .ok (.invokevirtual 345, 3) := by decide +kernel
theorem dX8_restsOfChanges_270 : decode cX8_restsOfChanges 270 = .ok (.invokevirtual 339, 3) := by decide +kernel
theorem dX8_restsOfChanges_273 : decode cX8_restsOfChanges 273 = .ok (.invokestatic 342, 3) := by decide +kernel
theorem dX8_restsOfChanges_276 : decode cX8_restsOfChanges 276 = .ok (.goto 5, 3) := by decide +kernel
theorem dX8_restsOfChanges_279 : decode cX8_restsOfChanges 279 = .ok (.iload 5, 2) := by decide +kernel
theorem dX8_restsOfChanges_281 : decode cX8_restsOfChanges 281 = .ok (.istore 5, 2) := by decide +kernel
theorem dX8_restsOfChanges_283 : decode cX8_restsOfChanges 283 = .ok (.iload_n 2, 1) := by decide +kernel
theorem dX8_restsOfChanges_284 : decode cX8_restsOfChanges 284 = .ok (.ifCond .ne 25, 3) := by decide +kernel
theorem dX8_restsOfChanges_287 : decode cX8_restsOfChanges 287 = .ok (.iload 5, 2) := by decide +kernel
theorem dX8_restsOfChanges_289 : decode cX8_restsOfChanges 289 = .ok (.aload_n 0, 1) := by decide +kernel
theorem dX8_restsOfChanges_290 : decode cX8_restsOfChanges 290 = .ok (.getfield 96, 3) := by decide +kernel
theorem dX8_restsOfChanges_293 : decode cX8_restsOfChanges 293 = .ok (.bipush 32, 2) := by decide +kernel
theorem dX8_restsOfChanges_295 : decode cX8_restsOfChanges 295 = .ok (.iload 4, 2) := by decide +kernel
theorem dX8_restsOfChanges_297 : decode cX8_restsOfChanges 297 = .ok (.imul, 1) := by decide +kernel
theorem dX8_restsOfChanges_298 : decode cX8_restsOfChanges 298 = .ok (.aload_n 0, 1) := by decide +kernel
theorem dX8_restsOfChanges_299 : decode cX8_restsOfChanges 299 = .ok (.getfield 22, 3) := by decide +kernel
theorem dX8_restsOfChanges_302 : decode cX8_restsOfChanges 302 = .ok (.iload_n 3, 1) := by decide +kernel
theorem dX8_restsOfChanges_303 : decode cX8_restsOfChanges 303 = .ok (.iaload, 1) := by decide +kernel
theorem dX8_restsOfChanges_304 : decode cX8_restsOfChanges 304 = .ok (.iadd, 1) := by decide +kernel
theorem dX8_restsOfChanges_305 : decode cX8_restsOfChanges 305 = .ok (.iaload, 1) := by decide +kernel
theorem dX8_restsOfChanges_306 : decode cX8_restsOfChanges 306 = .ok (.if_icmp .ge 7, 3) := by decide +kernel
theorem dX8_restsOfChanges_309 : decode cX8_restsOfChanges 309 = .ok (.iconst 1, 1) := by decide +kernel
theorem dX8_restsOfChanges_310 : decode cX8_restsOfChanges 310 = .ok (.goto 4, 3) := by decide +kernel
theorem dX8_restsOfChanges_313 : decode cX8_restsOfChanges 313 = .ok (.iconst 0, 1) := by decide +kernel
theorem dX8_restsOfChanges_314 : decode cX8_restsOfChanges 314 = .ok (.istore_n 2, 1) := by decide +kernel
theorem dX8_restsOfChanges_315 : decode cX8_restsOfChanges 315 = .ok (.aload_n 0, 1) := by decide +kernel
theorem dX8_restsOfChanges_316 : decode cX8_restsOfChanges 316 = .ok (.getfield 96, 3) := by decide +kernel
theorem dX8_restsOfChanges_319 : decode cX8_restsOfChanges 319 = .ok (.bipush 32, 2) := by decide +kernel
theorem dX8_restsOfChanges_321 : decode cX8_restsOfChanges 321 = .ok (.iload 4, 2) := by decide +kernel
theorem dX8_restsOfChanges_323 : decode cX8_restsOfChanges 323 = .ok (.imul, 1) := by decide +kernel
theorem dX8_restsOfChanges_324 : decode cX8_restsOfChanges 324 = .ok (.aload_n 0, 1) := by decide +kernel
theorem dX8_restsOfChanges_325 : decode cX8_restsOfChanges 325 = .ok (.getfield 22, 3) := by decide +kernel
theorem dX8_restsOfChanges_328 : decode cX8_restsOfChanges 328 = .ok (.iload_n 3, 1) := by decide +kernel
theorem dX8_restsOfChanges_329 : decode cX8_restsOfChanges 329 = .ok (.iaload, 1) := by decide +kernel
theorem dX8_restsOfChanges_330 : decode cX8_restsOfChanges 330 = .ok (.iadd, 1) := by decide +kernel
theorem dX8_restsOfChanges_331 : decode cX8_restsOfChanges 331 = .ok (.iload 5, 2) := by decide +kernel
theorem dX8_restsOfChanges_333 : decode cX8_restsOfChanges 333 = .ok (.aload_n 0, 1) := by decide +kernel
theorem dX8_restsOfChanges_334 : decode cX8_restsOfChanges 334 = .ok (.getfield 96, 3) := by decide +kernel
theorem dX8_restsOfChanges_337 : decode cX8_restsOfChanges 337 = .ok (.bipush 32, 2) := by decide +kernel
theorem dX8_restsOfChanges_339 : decode cX8_restsOfChanges 339 = .ok (.iload 4, 2) := by decide +kernel
theorem dX8_restsOfChanges_341 : decode cX8_restsOfChanges 341 = .ok (.imul, 1) := by decide +kernel
theorem dX8_restsOfChanges_342 : decode cX8_restsOfChanges 342 = .ok (.aload_n 0, 1) := by decide +kernel
theorem dX8_restsOfChanges_343 : decode cX8_restsOfChanges 343 = .ok (.getfield 22, 3) := by decide +kernel
theorem dX8_restsOfChanges_346 : decode cX8_restsOfChanges 346 = .ok (.iload_n 3, 1) := by decide +kernel
theorem dX8_restsOfChanges_347 : decode cX8_restsOfChanges 347 = .ok (.iaload, 1) := by decide +kernel
theorem dX8_restsOfChanges_348 : decode cX8_restsOfChanges 348 = .ok (.iadd, 1) := by decide +kernel
theorem dX8_restsOfChanges_349 : decode cX8_restsOfChanges 349 = .ok (.iaload, 1) := by decide +kernel
theorem dX8_restsOfChanges_350 : decode cX8_restsOfChanges 350 = .ok (.invokestatic 342, 3) := by decide +kernel
theorem dX8_restsOfChanges_353 : decode cX8_restsOfChanges 353 = .ok (.iastore, 1) := by decide +kernel
theorem dX8_restsOfChanges_354 : decode cX8_restsOfChanges 354 = .ok (.iinc 4 1, 3) := by decide +kernel
theorem dX8_restsOfChanges_357 : decode cX8_restsOfChanges 357 = .ok (.goto (-200), 3) := by decide +kernel
theorem dX8_restsOfChanges_360 : decode cX8_restsOfChanges 360 = .ok (.iinc 3 1, 3) := by decide +kernel
theorem dX8_restsOfChanges_363 : decode cX8_restsOfChanges 363 = .ok (.goto (-225), 3) := by decide +kernel
theorem dX8_restsOfChanges_366 : decode cX8_restsOfChanges 366 = .ok (.goto (-313), 3) := by decide +kernel
theorem dX8_restsOfChanges_369 : decode cX8_restsOfChanges 369 = .ok (.return_, 1) := by decide +kernel
set_option maxRecDepth 20000 in
theorem ggX8_closesChanges_X8_plus : GoodIn wsX8_closesChanges wsX8_plus := goodIn_g _ [(11, 2)] (by exact rfl) (by decide +kernel)
set_option maxRecDepth 20000 in
theorem gX8_closesChanges_X8_plus : GoodIn wsX8_closesChanges (wsV RX8 339 RX8 yX8_plus wsX8_plus) := goodIn_app (goodIn_of _ (by decide +kernel)) ggX8_closesChanges_X8_plus
set_option maxRecDepth 20000 in
theorem ggX8_closesChanges_X8_lesser : GoodIn wsX8_closesChanges wsX8_lesser := goodIn_g _ [(15, 1)] (by exact rfl) (by decide +kernel)
set_option maxRecDepth 20000 in
theorem gX8_closesChanges_X8_lesser : GoodIn wsX8_closesChanges (va_wsS RX8 342 yX8_lesser wsX8_lesser) := goodIn_app (goodIn_of _ (by decide +kernel)) ggX8_closesChanges_X8_lesser
theorem dX8_closesChanges_0 : decode cX8_closesChanges 0 = .ok (.iconst 1, 1) := by decide +kernel
theorem dX8_closesChanges_1 : decode cX8_closesChanges 1 = .ok (.istore_n 2, 1) := by decide +kernel
theorem dX8_closesChanges_2 : decode cX8_closesChanges 2 = .ok (.iload_n 2, 1) := by decide +kernel
theorem dX8_closesChanges_3 : decode cX8_closesChanges 3 = .ok (.ifCond .eq 234, 3) := by decide +kernel
theorem dX8_closesChanges_6 : decode cX8_closesChanges 6 = .ok (.iconst 0, 1) := by decide +kernel
theorem dX8_closesChanges_7 : decode cX8_closesChanges 7 = .ok (.istore_n 2, 1) := by decide +kernel
theorem dX8_closesChanges_8 : decode cX8_closesChanges 8 = .ok (.iconst 0, 1) := by decide +kernel
theorem dX8_closesChanges_9 : decode cX8_closesChanges 9 = .ok (.istore_n 3, 1) := by decide +kernel
theorem dX8_closesChanges_10 : decode cX8_closesChanges 10 = .ok (.iload_n 3, 1) := by decide +kernel
theorem dX8_closesChanges_11 : decode cX8_closesChanges 11 = .ok (.bipush 32, 2) := by decide +kernel
theorem dX8_closesChanges_13 : decode cX8_closesChanges 13 = .ok (.aload_n 0, 1) := by decide +kernel
theorem dX8_closesChanges_14 : decode cX8_closesChanges 14 = .ok (.getfield 135, 3) := by decide +kernel
theorem dX8_closesChanges_17 : decode cX8_closesChanges 17 = .ok (.imul, 1) := by decide +kernel
theorem dX8_closesChanges_18 : decode cX8_closesChanges 18 = .ok (.if_icmp .ge 69, 3) := by decide +kernel
theorem dX8_closesChanges_21 : decode cX8_closesChanges 21 = .ok (.aload_n 0, 1) := by decide +kernel
theorem dX8_closesChanges_22 : decode cX8_closesChanges 22 = .ok (.aload_n 0, 1) := by decide +kernel
theorem dX8_closesChanges_23 : decode cX8_closesChanges 23 = .ok (.getfield 99, 3) := by decide +kernel
theorem dX8_closesChanges_26 : decode cX8_closesChanges 26 = .ok (.iload_n 3, 1) := by decide +kernel
theorem dX8_closesChanges_27 : decode cX8_closesChanges 27 = .ok (.iaload, 1) := by decide +kernel
theorem dX8_closesChanges_28 : decode cX8_closesChanges 28 = .ok (.iconst 1, 1) := by decide +kernel
theorem dX8_closesChanges_29 : decode cX8_closesChanges 29 = .ok (.invokevirtual 339, 3) := by decide +kernel
theorem dX8_closesChanges_32 : decode cX8_closesChanges 32 = .ok (.istore 4, 2) := by decide +kernel
theorem dX8_closesChanges_34 : decode cX8_closesChanges 34 = .ok (.iload_n 2, 1) := by decide +kernel
theorem dX8_closesChanges_35 : decode cX8_closesChanges 35 = .ok (.ifCond .ne 17, 3) := by decide +kernel
theorem dX8_closesChanges_38 : decode cX8_closesChanges 38 = .ok (.iload 4, 2) := by decide +kernel
theorem dX8_closesChanges_40 : decode cX8_closesChanges 40 = .ok (.aload_n 0, 1) := by decide +kernel
theorem dX8_closesChanges_41 : decode cX8_closesChanges 41 = .ok (.getfield 99, 3) := by decide +kernel
theorem dX8_closesChanges_44 : decode cX8_closesChanges 44 = .ok (.iload_n 3, 1) := by decide +kernel
theorem dX8_closesChanges_45 : decode cX8_closesChanges 45 = .ok (.bipush 32, 2) := by decide +kernel
theorem dX8_closesChanges_47 : decode cX8_closesChanges 47 = .ok (.iadd, 1) := by decide +kernel
theorem dX8_closesChanges_48 : decode cX8_closesChanges 48 = .ok (.iaload, 1) := by decide +kernel
theorem dX8_closesChanges_49 : decode cX8_closesChanges 49 = .ok (.if_icmp .ge 7, 3) := by decide +kernel
theorem dX8_closesChanges_52 : decode cX8_closesChanges 52 = .ok (.iconst 1, 1) := by decide +kernel
theorem dX8_closesChanges_53 : decode cX8_closesChanges 53 = .ok (.goto 4, 3) := by decide +kernel
theorem dX8_closesChanges_56 : decode cX8_closesChanges 56 = .ok (.iconst 0, 1) := by decide +kernel
theorem dX8_closesChanges_57 : decode cX8_closesChanges 57 = .ok (.istore_n 2, 1) := by decide +kernel
theorem dX8_closesChanges_58 : decode cX8_closesChanges 58 = .ok (.aload_n 0, 1) := by decide +kernel
theorem dX8_closesChanges_59 : decode cX8_closesChanges 59 = .ok (.getfield 99, 3) := by decide +kernel
theorem dX8_closesChanges_62 : decode cX8_closesChanges 62 = .ok (.iload_n 3, 1) := by decide +kernel
theorem dX8_closesChanges_63 : decode cX8_closesChanges 63 = .ok (.bipush 32, 2) := by decide +kernel
theorem dX8_closesChanges_65 : decode cX8_closesChanges 65 = .ok (.iadd, 1) := by decide +kernel
theorem dX8_closesChanges_66 : decode cX8_closesChanges 66 = .ok (.iload 4, 2) := by decide +kernel
theorem dX8_closesChanges_68 : decode cX8_closesChanges 68 = .ok (.aload_n 0, 1) := by decide +kernel
theorem dX8_closesChanges_69 : decode cX8_closesChanges 69 = .ok (.getfield 99, 3) := by decide +kernel
theorem dX8_closesChanges_72 : decode cX8_closesChanges 72 = .ok (.iload_n 3, 1) := by decide +kernel
theorem dX8_closesChanges_73 : decode cX8_closesChanges 73 = .ok (.bipush 32, 2) := by decide +kernel
theorem dX8_closesChanges_75 : decode cX8_closesChanges 75 = .ok (.iadd, 1) := by decide +kernel
theorem dX8_closesChanges_76 : decode cX8_closesChanges 76 = .ok (.iaload, 1) := by decide +kernel
theorem dX8_closesChanges_77 : decode cX8_closesChanges 77 = .ok (.invokestatic 342, 3) := by decide +kernel
theorem dX8_closesChanges_80 : decode cX8_closesChanges 80 = .ok (.iastore, 1) := by decide +kernel
theorem dX8_closesChanges_81 : decode cX8_closesChanges 81 = .ok (.iinc 3 1, 3) := by decide +kernel
theorem dX8_closesChanges_84 : decode cX8_closesChanges 84 = .ok (.goto (-74), 3) := by decide +kernel
theorem dX8_closesChanges_87 : decode cX8_closesChanges 87 = .ok (.sipush 160, 3) := by decide +kernel
theorem dX8_closesChanges_90 : decode cX8_closesChanges 90 = .ok (.iload_n 1, 1) := by decide +kernel
theorem dX8_closesChanges_91 : decode cX8_closesChanges 91 = .ok (.imul, 1) := by decide +kernel
theorem dX8_closesChanges_92 : decode cX8_closesChanges 92 = .ok (.istore_n 3, 1) := by decide +kernel
theorem dX8_closesChanges_93 : decode cX8_closesChanges 93 = .ok (.iload_n 3, 1) := by decide +kernel
theorem dX8_closesChanges_94 : decode cX8_closesChanges 94 = .ok (.sipush 160, 3) := by decide +kernel
theorem dX8_closesChanges_97 : decode cX8_closesChanges 97 = .ok (.iload_n 1, 1) := by decide +kernel
theorem dX8_closesChanges_98 : decode cX8_closesChanges 98 = .ok (.imul, 1) := by decide +kernel
theorem dX8_closesChanges_99 : decode cX8_closesChanges 99 = .ok (.aload_n 0, 1) := by decide +kernel
theorem dX8_closesChanges_100 : decode cX8_closesChanges 100 = .ok (.getfield 19, 3) := by decide +kernel
theorem dX8_closesChanges_103 : decode cX8_closesChanges 103 = .ok (.iload_n 1, 1) := by decide +kernel
theorem dX8_closesChanges_104 : decode cX8_closesChanges 104 = .ok (.iaload, 1) := by decide +kernel
theorem dX8_closesChanges_105 : decode cX8_closesChanges 105 = .ok (.iadd, 1) := by decide +kernel
theorem dX8_closesChanges_106 : decode cX8_closesChanges 106 = .ok (.if_icmp .ge 128, 3) := by decide +kernel
theorem dX8_closesChanges_109 : decode cX8_closesChanges 109 = .ok (.iconst 0, 1) := by decide +kernel
theorem dX8_closesChanges_110 : decode cX8_closesChanges 110 = .ok (.istore 4, 2) := by decide +kernel
theorem dX8_closesChanges_112 : decode cX8_closesChanges 112 = .ok (.iload 4, 2) := by decide +kernel
theorem dX8_closesChanges_114 : decode cX8_closesChanges 114 = .ok (.aload_n 0, 1) := by decide +kernel
theorem dX8_closesChanges_115 : decode cX8_closesChanges 115 = .ok (.getfield 135, 3) := by decide +kernel
theorem dX8_closesChanges_118 : decode cX8_closesChanges 118 = .ok (.if_icmp .gt 110, 3) := by decide +kernel
theorem dX8_closesChanges_121 : decode cX8_closesChanges 121 = .ok (.aload_n 0, 1) := by decide +kernel
theorem dX8_closesChanges_122 : decode cX8_closesChanges 122 = .ok (.getfield 25, 3) := by decide +kernel
theorem dX8_closesChanges_125 : decode cX8_closesChanges 125 = .ok (.iload_n 3, 1) := by decide +kernel
theorem dX8_closesChanges_126 : decode cX8_closesChanges 126 = .ok (.iaload, 1) := by decide +kernel
theorem dX8_closesChanges_127 : decode cX8_closesChanges 127 = .ok (.bipush 8, 2) := by decide +kernel
theorem dX8_closesChanges_129 : decode cX8_closesChanges 129 = .ok (.if_icmp .ne 99, 3) := by decide +kernel
theorem dX8_closesChanges_132 : decode cX8_closesChanges 132 = .ok (.aload_n 0, 1) := by decide +kernel
theorem dX8_closesChanges_133 : decode cX8_closesChanges 133 = .ok (.getfield 99, 3) := by decide +kernel
theorem dX8_closesChanges_136 : decode cX8_closesChanges 136 = .ok (.bipush 32, 2) := by decide +kernel
theorem dX8_closesChanges_138 : decode cX8_closesChanges 138 = .ok (.iload 4, 2) := by decide +kernel
theorem dX8_closesChanges_140 : decode cX8_closesChanges 140 = .ok (.imul, 1) := by decide +kernel
theorem dX8_closesChanges_141 : decode cX8_closesChanges 141 = .ok (.aload_n 0, 1) := by decide +kernel
theorem dX8_closesChanges_142 : decode cX8_closesChanges 142 = .ok (.getfield 22, 3) := by decide +kernel
theorem dX8_closesChanges_145 : decode cX8_closesChanges 145 = .ok (.iload_n 3, 1) := by decide +kernel
theorem dX8_closesChanges_146 : decode cX8_closesChanges 146 = .ok (.iaload, 1) := by decide +kernel
theorem dX8_closesChanges_147 : decode cX8_closesChanges 147 = .ok (.iadd, 1) := by decide +kernel
theorem dX8_closesChanges_148 : decode cX8_closesChanges 148 = .ok (.iaload, 1) := by decide +kernel
theorem dX8_closesChanges_149 : decode cX8_closesChanges 149 = .ok (.istore 5, 2) := by decide +kernel
theorem dX8_closesChanges_151 : decode cX8_closesChanges 151 = .ok (.iload_n 2, 1) := by decide +kernel
theorem dX8_closesChanges_152 : decode cX8_closesChanges 152 = .ok (.ifCond .ne 25, 3) := by decide +kernel
theorem dX8_closesChanges_155 : decode cX8_closesChanges 155 = .ok (.iload 5, 2) := by decide +kernel
theorem dX8_closesChanges_157 : decode cX8_closesChanges 157 = .ok (.aload_n 0, 1) := by decide +kernel
theorem dX8_closesChanges_158 : decode cX8_closesChanges 158 = .ok (.getfield 99, 3) := by decide +kernel
theorem dX8_closesChanges_161 : decode cX8_closesChanges 161 = .ok (.bipush 32, 2) := by decide +kernel
theorem dX8_closesChanges_163 : decode cX8_closesChanges 163 = .ok (.iload 4, 2) := by decide +kernel
theorem dX8_closesChanges_165 : decode cX8_closesChanges 165 = .ok (.imul, 1) := by decide +kernel
theorem dX8_closesChanges_166 : decode cX8_closesChanges 166 = .ok (.aload_n 0, 1) := by decide +kernel
theorem dX8_closesChanges_167 : decode cX8_closesChanges 167 = .ok (.getfield 34, 3) := by decide +kernel
theorem dX8_closesChanges_170 : decode cX8_closesChanges 170 = .ok (.iload_n 3, 1) := by decide +kernel
theorem dX8_closesChanges_171 : decode cX8_closesChanges 171 = .ok (.iaload, 1) := by decide +kernel
theorem dX8_closesChanges_172 : decode cX8_closesChanges 172 = .ok (.iadd, 1) := by decide +kernel
theorem dX8_closesChanges_173 : decode cX8_closesChanges 173 = .ok (.iaload, 1) := by decide +kernel
theorem dX8_closesChanges_174 : decode cX8_closesChanges 174 = .ok (.if_icmp .ge 7, 3) := by decide +kernel
theorem dX8_closesChanges_177 : decode cX8_closesChanges 177 = .ok (.iconst 1, 1) := by decide +kernel
theorem dX8_closesChanges_178 : decode cX8_closesChanges 178 = .ok (.goto 4, 3) := by decide +kernel
theorem dX8_closesChanges_181 : decode cX8_closesChanges 181 = .ok (.iconst 0, 1) := by decide +kernel
theorem dX8_closesChanges_182 : decode cX8_closesChanges 182 = .ok (.istore_n 2, 1) := by decide +kernel
theorem dX8_closesChanges_183 : decode cX8_closesChanges 183 = .ok (.aload_n 0, 1) := by decide +kernel
theorem dX8_closesChanges_184 : decode cX8_closesChanges 184 = .ok (.getfield 99, 3) := by decide +kernel
theorem dX8_closesChanges_187 : decode cX8_closesChanges 187 = .ok (.bipush 32, 2) := by decide +kernel
theorem dX8_closesChanges_189 : decode cX8_closesChanges 189 = .ok (.iload 4, 2) := by decide +kernel
theorem dX8_closesChanges_191 : decode cX8_closesChanges 191 = .ok (.imul, 1) := by decide +kernel
theorem dX8_closesChanges_192 : decode cX8_closesChanges 192 = .ok (.aload_n 0, 1) := by decide +kernel
theorem dX8_closesChanges_193 : decode cX8_closesChanges 193 = .ok (.getfield 34, 3) := by decide +kernel
theorem dX8_closesChanges_196 : decode cX8_closesChanges 196 = .ok (.iload_n 3, 1) := by decide +kernel
theorem dX8_closesChanges_197 : decode cX8_closesChanges 197 = .ok (.iaload, 1) := by decide +kernel
theorem dX8_closesChanges_198 : decode cX8_closesChanges 198 = .ok (.iadd, 1) := by decide +kernel
theorem dX8_closesChanges_199 : decode cX8_closesChanges 199 = .ok (.iload 5, 2) := by decide +kernel
theorem dX8_closesChanges_201 : decode cX8_closesChanges 201 = .ok (.aload_n 0, 1) := by decide +kernel
theorem dX8_closesChanges_202 : decode cX8_closesChanges 202 = .ok (.getfield 99, 3) := by decide +kernel
theorem dX8_closesChanges_205 : decode cX8_closesChanges 205 = .ok (.bipush 32, 2) := by decide +kernel
theorem dX8_closesChanges_207 : decode cX8_closesChanges 207 = .ok (.iload 4, 2) := by decide +kernel
theorem dX8_closesChanges_209 : decode cX8_closesChanges 209 = .ok (.imul, 1) := by decide +kernel
theorem dX8_closesChanges_210 : decode cX8_closesChanges 210 = .ok (.aload_n 0, 1) := by decide +kernel
theorem dX8_closesChanges_211 : decode cX8_closesChanges 211 = .ok (.getfield 34, 3) := by decide +kernel
theorem dX8_closesChanges_214 : decode cX8_closesChanges 214 = .ok (.iload_n 3, 1) := by decide +kernel
theorem dX8_closesChanges_215 : decode cX8_closesChanges 215 = .ok (.iaload, 1) := by decide +kernel
theorem dX8_closesChanges_216 : decode cX8_closesChanges 216 = .ok (.iadd, 1) := by decide +kernel
theorem dX8_closesChanges_217 : decode cX8_closesChanges 217 = .ok (.iaload, 1) := by decide +kernel
theorem dX8_closesChanges_218 : decode cX8_closesChanges 218 = .ok (.invokestatic 342, 3) := by decide +kernel
theorem dX8_closesChanges_221 : decode cX8_closesChanges 221 = .ok (.iastore, 1) := by decide +kernel
theorem dX8_closesChanges_222 : decode cX8_closesChanges 222 = .ok (.iinc 4 1, 3) := by decide +kernel
theorem dX8_closesChanges_225 : decode cX8_closesChanges 225 = .ok (.goto (-113), 3) := by decide +kernel
theorem dX8_closesChanges_228 : decode cX8_closesChanges 228 = .ok (.iinc 3 1, 3) := by decide +kernel
theorem dX8_closesChanges_231 : decode cX8_closesChanges 231 = .ok (.goto (-138), 3) := by decide +kernel
theorem dX8_closesChanges_234 : decode cX8_closesChanges 234 = .ok (.goto (-232), 3) := by decide +kernel
theorem dX8_closesChanges_237 : decode cX8_closesChanges 237 = .ok (.return_, 1) := by decide +kernel
set_option maxRecDepth 20000 in
theorem ggX8_goesChanged_X8_plus : GoodIn wsX8_goesChanged wsX8_plus := goodIn_g _ [(14, 1), (2, 1)] (by exact rfl) (by decide +kernel)
set_option maxRecDepth 20000 in
theorem gX8_goesChanged_X8_plus : GoodIn wsX8_goesChanged (wsV RX8 339 RX8 yX8_plus wsX8_plus) := goodIn_app (goodIn_of _ (by decide +kernel)) ggX8_goesChanged_X8_plus
set_option maxRecDepth 20000 in
theorem ggX8_goesChanged_X8_lesser : GoodIn wsX8_goesChanged wsX8_lesser := goodIn_g _ [(17, 1)] (by exact rfl) (by decide +kernel)
set_option maxRecDepth 20000 in
theorem gX8_goesChanged_X8_lesser : GoodIn wsX8_goesChanged (va_wsS RX8 342 yX8_lesser wsX8_lesser) := goodIn_app (goodIn_of _ (by decide +kernel)) ggX8_goesChanged_X8_lesser
set_option maxRecDepth 20000 in
theorem ggX8_goesChanged_X8_change : GoodIn wsX8_goesChanged wsX8_change := goodIn_g _ [(21, 1), (4, 1), (22, 1), (5, 1), (23, 47)] (by exact rfl) (by decide +kernel)
set_option maxRecDepth 20000 in
theorem gX8_goesChanged_X8_change : GoodIn wsX8_goesChanged (wsV RX8 345 RX8 yX8_change wsX8_change) := goodIn_app (goodIn_of _ (by decide +kernel)) ggX8_goesChanged_X8_change
theorem dX8_goesChanged_0 : decode cX8_goesChanged 0 = .ok (.iconst 0, 1) := by decide +kernel
theorem dX8_goesChanged_1 : decode cX8_goesChanged 1 = .ok (.istore_n 3, 1) := by decide +kernel
theorem dX8_goesChanged_2 : decode cX8_goesChanged 2 = .ok (.iload_n 3, 1) := by decide +kernel
theorem dX8_goesChanged_3 : decode cX8_goesChanged 3 = .ok (.sipush 288, 3) := by decide +kernel
theorem dX8_goesChanged_6 : decode cX8_goesChanged 6 = .ok (.if_icmp .ge 18, 3) := by decide +kernel
theorem dX8_goesChanged_9 : decode cX8_goesChanged 9 = .ok (.aload_n 0, 1) := by decide +kernel
theorem dX8_goesChanged_10 : decode cX8_goesChanged 10 = .ok (.getfield 102, 3) := by decide +kernel
theorem dX8_goesChanged_13 : decode cX8_goesChanged 13 = .ok (.iload_n 3, 1) := by decide +kernel
theorem dX8_goesChanged_14 : decode cX8_goesChanged 14 = .ok (.ldc_w 284, 3) := by decide +kernel
theorem dX8_goesChanged_17 : decode cX8_goesChanged 17 = .ok (.iastore, 1) := by decide +kernel
theorem dX8_goesChanged_18 : decode cX8_goesChanged 18 = .ok (.iinc 3 1, 3) := by decide +kernel
theorem dX8_goesChanged_21 : decode cX8_goesChanged 21 = .ok (.goto (-19), 3) := by decide +kernel
theorem dX8_goesChanged_24 : decode cX8_goesChanged 24 = .ok (.sipush 160, 3) := by decide +kernel
theorem dX8_goesChanged_27 : decode cX8_goesChanged 27 = .ok (.iload_n 1, 1) := by decide +kernel
theorem dX8_goesChanged_28 : decode cX8_goesChanged 28 = .ok (.imul, 1) := by decide +kernel
theorem dX8_goesChanged_29 : decode cX8_goesChanged 29 = .ok (.istore_n 3, 1) := by decide +kernel
theorem dX8_goesChanged_30 : decode cX8_goesChanged 30 = .ok (.iload_n 3, 1) := by decide +kernel
theorem dX8_goesChanged_31 : decode cX8_goesChanged 31 = .ok (.sipush 160, 3) := by decide +kernel
theorem dX8_goesChanged_34 : decode cX8_goesChanged 34 = .ok (.iload_n 1, 1) := by decide +kernel
theorem dX8_goesChanged_35 : decode cX8_goesChanged 35 = .ok (.imul, 1) := by decide +kernel
theorem dX8_goesChanged_36 : decode cX8_goesChanged 36 = .ok (.aload_n 0, 1) := by decide +kernel
theorem dX8_goesChanged_37 : decode cX8_goesChanged 37 = .ok (.getfield 19, 3) := by decide +kernel
theorem dX8_goesChanged_40 : decode cX8_goesChanged 40 = .ok (.iload_n 1, 1) := by decide +kernel
theorem dX8_goesChanged_41 : decode cX8_goesChanged 41 = .ok (.iaload, 1) := by decide +kernel
theorem dX8_goesChanged_42 : decode cX8_goesChanged 42 = .ok (.iadd, 1) := by decide +kernel
theorem dX8_goesChanged_43 : decode cX8_goesChanged 43 = .ok (.if_icmp .ge 163, 3) := by decide +kernel
theorem dX8_goesChanged_46 : decode cX8_goesChanged 46 = .ok (.iconst 0, 1) := by decide +kernel
theorem dX8_goesChanged_47 : decode cX8_goesChanged 47 = .ok (.istore 4, 2) := by decide +kernel
theorem dX8_goesChanged_49 : decode cX8_goesChanged 49 = .ok (.iload 4, 2) := by decide +kernel
theorem dX8_goesChanged_51 : decode cX8_goesChanged 51 = .ok (.aload_n 0, 1) := by decide +kernel
theorem dX8_goesChanged_52 : decode cX8_goesChanged 52 = .ok (.getfield 135, 3) := by decide +kernel
theorem dX8_goesChanged_55 : decode cX8_goesChanged 55 = .ok (.if_icmp .gt 145, 3) := by decide +kernel
theorem dX8_goesChanged_58 : decode cX8_goesChanged 58 = .ok (.aload_n 0, 1) := by decide +kernel
theorem dX8_goesChanged_59 : decode cX8_goesChanged 59 = .ok (.getfield 25, 3) := by decide +kernel
theorem dX8_goesChanged_62 : decode cX8_goesChanged 62 = .ok (.iload_n 3, 1) := by decide +kernel
theorem dX8_goesChanged_63 : decode cX8_goesChanged 63 = .ok (.iaload, 1) := by decide +kernel
theorem dX8_goesChanged_64 : decode cX8_goesChanged 64 = .ok (.iload_n 2, 1) := by decide +kernel
theorem dX8_goesChanged_65 : decode cX8_goesChanged 65 = .ok (.if_icmp .ne 135, 3) := by decide +kernel
theorem dX8_goesChanged_68 : decode cX8_goesChanged 68 = .ok (.aload_n 0, 1) := by decide +kernel
theorem dX8_goesChanged_69 : decode cX8_goesChanged 69 = .ok (.getfield 99, 3) := by decide +kernel
theorem dX8_goesChanged_72 : decode cX8_goesChanged 72 = .ok (.bipush 32, 2) := by decide +kernel
theorem dX8_goesChanged_74 : decode cX8_goesChanged 74 = .ok (.iload 4, 2) := by decide +kernel
theorem dX8_goesChanged_76 : decode cX8_goesChanged 76 = .ok (.imul, 1) := by decide +kernel
theorem dX8_goesChanged_77 : decode cX8_goesChanged 77 = .ok (.aload_n 0, 1) := by decide +kernel
theorem dX8_goesChanged_78 : decode cX8_goesChanged 78 = .ok (.getfield 22, 3) := by decide +kernel
theorem dX8_goesChanged_81 : decode cX8_goesChanged 81 = .ok (.iload_n 3, 1) := by decide +kernel
theorem dX8_goesChanged_82 : decode cX8_goesChanged 82 = .ok (.iaload, 1) := by decide +kernel
theorem dX8_goesChanged_83 : decode cX8_goesChanged 83 = .ok (.iadd, 1) := by decide +kernel
theorem dX8_goesChanged_84 : decode cX8_goesChanged 84 = .ok (.iaload, 1) := by decide +kernel
theorem dX8_goesChanged_85 : decode cX8_goesChanged 85 = .ok (.istore 5, 2) := by decide +kernel
theorem dX8_goesChanged_87 : decode cX8_goesChanged 87 = .ok (.aload_n 0, 1) := by decide +kernel
theorem dX8_goesChanged_88 : decode cX8_goesChanged 88 = .ok (.getfield 102, 3) := by decide +kernel
theorem dX8_goesChanged_91 : decode cX8_goesChanged 91 = .ok (.bipush 32, 2) := by decide +kernel
theorem dX8_goesChanged_93 : decode cX8_goesChanged 93 = .ok (.iload 4, 2) := by decide +kernel
theorem dX8_goesChanged_95 : decode cX8_goesChanged 95 = .ok (.imul, 1) := by decide +kernel
theorem dX8_goesChanged_96 : decode cX8_goesChanged 96 = .ok (.aload_n 0, 1) := by decide +kernel
theorem dX8_goesChanged_97 : decode cX8_goesChanged 97 = .ok (.getfield 34, 3) := by decide +kernel
theorem dX8_goesChanged_100 : decode cX8_goesChanged 100 = .ok (.iload_n 3, 1) := by decide +kernel
theorem dX8_goesChanged_101 : decode cX8_goesChanged 101 = .ok (.iaload, 1) := by decide +kernel
theorem dX8_goesChanged_102 : decode cX8_goesChanged 102 = .ok (.iadd, 1) := by decide +kernel
theorem dX8_goesChanged_103 : decode cX8_goesChanged 103 = .ok (.aload_n 0, 1) := by decide +kernel
theorem dX8_goesChanged_104 : decode cX8_goesChanged 104 = .ok (.getfield 102, 3) := by decide +kernel
theorem dX8_goesChanged_107 : decode cX8_goesChanged 107 = .ok (.bipush 32, 2) := by decide +kernel
theorem dX8_goesChanged_109 : decode cX8_goesChanged 109 = .ok (.iload 4, 2) := by decide +kernel
theorem dX8_goesChanged_111 : decode cX8_goesChanged 111 = .ok (.imul, 1) := by decide +kernel
theorem dX8_goesChanged_112 : decode cX8_goesChanged 112 = .ok (.aload_n 0, 1) := by decide +kernel
theorem dX8_goesChanged_113 : decode cX8_goesChanged 113 = .ok (.getfield 34, 3) := by decide +kernel
theorem dX8_goesChanged_116 : decode cX8_goesChanged 116 = .ok (.iload_n 3, 1) := by decide +kernel
theorem dX8_goesChanged_117 : decode cX8_goesChanged 117 = .ok (.iaload, 1) := by decide +kernel
theorem dX8_goesChanged_118 : decode cX8_goesChanged 118 = .ok (.iadd, 1) := by decide +kernel
theorem dX8_goesChanged_119 : decode cX8_goesChanged 119 = .ok (.iaload, 1) := by decide +kernel
theorem dX8_goesChanged_120 : decode cX8_goesChanged 120 = .ok (.aload_n 0, 1) := by decide +kernel
theorem dX8_goesChanged_121 : decode cX8_goesChanged 121 = .ok (.iload 5, 2) := by decide +kernel
theorem dX8_goesChanged_123 : decode cX8_goesChanged 123 = .ok (.iconst 1, 1) := by decide +kernel
theorem dX8_goesChanged_124 : decode cX8_goesChanged 124 = .ok (.invokevirtual 339, 3) := by decide +kernel
theorem dX8_goesChanged_127 : decode cX8_goesChanged 127 = .ok (.invokestatic 342, 3) := by decide +kernel
theorem dX8_goesChanged_130 : decode cX8_goesChanged 130 = .ok (.iastore, 1) := by decide +kernel
theorem dX8_goesChanged_131 : decode cX8_goesChanged 131 = .ok (.iload 4, 2) := by decide +kernel
theorem dX8_goesChanged_133 : decode cX8_goesChanged 133 = .ok (.aload_n 0, 1) := by decide +kernel
theorem dX8_goesChanged_134 : decode cX8_goesChanged 134 = .ok (.getfield 135, 3) := by decide +kernel
theorem dX8_goesChanged_137 : decode cX8_goesChanged 137 = .ok (.if_icmp .ge 57, 3) := by decide +kernel
theorem dX8_goesChanged_140 : decode cX8_goesChanged 140 = .ok (.aload_n 0, 1) := by decide +kernel
theorem dX8_goesChanged_141 : decode cX8_goesChanged 141 = .ok (.getfield 102, 3) := by decide +kernel
theorem dX8_goesChanged_144 : decode cX8_goesChanged 144 = .ok (.bipush 32, 2) := by decide +kernel
theorem dX8_goesChanged_146 : decode cX8_goesChanged 146 = .ok (.iload 4, 2) := by decide +kernel
theorem dX8_goesChanged_148 : decode cX8_goesChanged 148 = .ok (.iconst 1, 1) := by decide +kernel
theorem dX8_goesChanged_149 : decode cX8_goesChanged 149 = .ok (.iadd, 1) := by decide +kernel
theorem dX8_goesChanged_150 : decode cX8_goesChanged 150 = .ok (.imul, 1) := by decide +kernel
theorem dX8_goesChanged_151 : decode cX8_goesChanged 151 = .ok (.aload_n 0, 1) := by decide +kernel
theorem dX8_goesChanged_152 : decode cX8_goesChanged 152 = .ok (.getfield 34, 3) := by decide +kernel
theorem dX8_goesChanged_155 : decode cX8_goesChanged 155 = .ok (.iload_n 3, 1) := by decide +kernel
theorem dX8_goesChanged_156 : decode cX8_goesChanged 156 = .ok (.iaload, 1) := by decide +kernel
theorem dX8_goesChanged_157 : decode cX8_goesChanged 157 = .ok (.iadd, 1) := by decide +kernel
theorem dX8_goesChanged_158 : decode cX8_goesChanged 158 = .ok (.aload_n 0, 1) := by decide +kernel
theorem dX8_goesChanged_159 : decode cX8_goesChanged 159 = .ok (.getfield 102, 3) := by decide +kernel
theorem dX8_goesChanged_162 : decode cX8_goesChanged 162 = .ok (.bipush 32, 2) := by decide +kernel
theorem dX8_goesChanged_164 : decode cX8_goesChanged 164 = .ok (.iload 4, 2) := by decide +kernel
theorem dX8_goesChanged_166 : decode cX8_goesChanged 166 = .ok (.iconst 1, 1) := by decide +kernel
theorem dX8_goesChanged_167 : decode cX8_goesChanged 167 = .ok (.iadd, 1) := by decide +kernel
theorem dX8_goesChanged_168 : decode cX8_goesChanged 168 = .ok (.imul, 1) := by decide +kernel
theorem dX8_goesChanged_169 : decode cX8_goesChanged 169 = .ok (.aload_n 0, 1) := by decide +kernel
theorem dX8_goesChanged_170 : decode cX8_goesChanged 170 = .ok (.getfield 34, 3) := by decide +kernel
theorem dX8_goesChanged_173 : decode cX8_goesChanged 173 = .ok (.iload_n 3, 1) := by decide +kernel
theorem dX8_goesChanged_174 : decode cX8_goesChanged 174 = .ok (.iaload, 1) := by decide +kernel
theorem dX8_goesChanged_175 : decode cX8_goesChanged 175 = .ok (.iadd, 1) := by decide +kernel
theorem dX8_goesChanged_176 : decode cX8_goesChanged 176 = .ok (.iaload, 1) := by decide +kernel
theorem dX8_goesChanged_177 : decode cX8_goesChanged 177 = .ok (.aload_n 0, 1) := by decide +kernel
theorem dX8_goesChanged_178 : decode cX8_goesChanged 178 = .ok (.iload 5, 2) := by decide +kernel
theorem dX8_goesChanged_180 : decode cX8_goesChanged 180 = .ok (.aload_n 0, 1) := by decide +kernel
theorem dX8_goesChanged_181 : decode cX8_goesChanged 181 = .ok (.iload_n 3, 1) := by decide +kernel
theorem dX8_goesChanged_182 : decode cX8_goesChanged 182 = .ok (.iload 4, 2) := by decide +kernel
theorem dX8_goesChanged_184 : decode cX8_goesChanged 184 = .ok (.invokevirtual 345, 3) := by decide +kernel
theorem dX8_goesChanged_187 : decode cX8_goesChanged 187 = .ok (.invokevirtual 339, 3) := by decide +kernel
theorem dX8_goesChanged_190 : decode cX8_goesChanged 190 = .ok (.invokestatic 342, 3) := by decide +kernel
theorem dX8_goesChanged_193 : decode cX8_goesChanged 193 = .ok (.iastore, 1) := by decide +kernel
theorem dX8_goesChanged_194 : decode cX8_goesChanged 194 = .ok (.iinc 4 1, 3) := by decide +kernel
theorem dX8_goesChanged_197 : decode cX8_goesChanged 197 = .ok (.goto (-148), 3) := by decide +kernel
theorem dX8_goesChanged_200 : decode cX8_goesChanged 200 = .ok (.iinc 3 1, 3) := by decide +kernel
theorem dX8_goesChanged_203 : decode cX8_goesChanged 203 = .ok (.goto (-173), 3) := by decide +kernel
theorem dX8_goesChanged_206 : decode cX8_goesChanged 206 = .ok (.ldc_w 284, 3) := by decide +kernel
theorem dX8_goesChanged_209 : decode cX8_goesChanged 209 = .ok (.istore_n 3, 1) := by decide +kernel
theorem dX8_goesChanged_210 : decode cX8_goesChanged 210 = .ok (.iconst 0, 1) := by decide +kernel
theorem dX8_goesChanged_211 : decode cX8_goesChanged 211 = .ok (.istore 4, 2) := by decide +kernel
theorem dX8_goesChanged_213 : decode cX8_goesChanged 213 = .ok (.iload 4, 2) := by decide +kernel
theorem dX8_goesChanged_215 : decode cX8_goesChanged 215 = .ok (.sipush 288, 3) := by decide +kernel
theorem dX8_goesChanged_218 : decode cX8_goesChanged 218 = .ok (.if_icmp .ge 59, 3) := by decide +kernel
theorem dX8_goesChanged_221 : decode cX8_goesChanged 221 = .ok (.aload_n 0, 1) := by decide +kernel
theorem dX8_goesChanged_222 : decode cX8_goesChanged 222 = .ok (.getfield 102, 3) := by decide +kernel
theorem dX8_goesChanged_225 : decode cX8_goesChanged 225 = .ok (.iload 4, 2) := by decide +kernel
theorem dX8_goesChanged_227 : decode cX8_goesChanged 227 = .ok (.iaload, 1) := by decide +kernel
theorem dX8_goesChanged_228 : decode cX8_goesChanged 228 = .ok (.ldc_w 284, 3) := by decide +kernel
theorem dX8_goesChanged_231 : decode cX8_goesChanged 231 = .ok (.if_icmp .eq 16, 3) := by decide +kernel
theorem dX8_goesChanged_234 : decode cX8_goesChanged 234 = .ok (.aload_n 0, 1) := by decide +kernel
theorem dX8_goesChanged_235 : decode cX8_goesChanged 235 = .ok (.getfield 96, 3) := by decide +kernel
theorem dX8_goesChanged_238 : decode cX8_goesChanged 238 = .ok (.iload 4, 2) := by decide +kernel
theorem dX8_goesChanged_240 : decode cX8_goesChanged 240 = .ok (.iaload, 1) := by decide +kernel
theorem dX8_goesChanged_241 : decode cX8_goesChanged 241 = .ok (.ldc_w 284, 3) := by decide +kernel
theorem dX8_goesChanged_244 : decode cX8_goesChanged 244 = .ok (.if_icmp .ne 7, 3) := by decide +kernel
theorem dX8_goesChanged_247 : decode cX8_goesChanged 247 = .ok (.iload_n 3, 1) := by decide +kernel
theorem dX8_goesChanged_248 : decode cX8_goesChanged 248 = .ok (.goto 22, 3) := by decide +kernel
theorem dX8_goesChanged_251 : decode cX8_goesChanged 251 = .ok (.iload_n 3, 1) := by decide +kernel
theorem dX8_goesChanged_252 : decode cX8_goesChanged 252 = .ok (.aload_n 0, 1) := by decide +kernel
theorem dX8_goesChanged_253 : decode cX8_goesChanged 253 = .ok (.getfield 102, 3) := by decide +kernel
theorem dX8_goesChanged_256 : decode cX8_goesChanged 256 = .ok (.iload 4, 2) := by decide +kernel
theorem dX8_goesChanged_258 : decode cX8_goesChanged 258 = .ok (.iaload, 1) := by decide +kernel
theorem dX8_goesChanged_259 : decode cX8_goesChanged 259 = .ok (.aload_n 0, 1) := by decide +kernel
theorem dX8_goesChanged_260 : decode cX8_goesChanged 260 = .ok (.getfield 96, 3) := by decide +kernel
theorem dX8_goesChanged_263 : decode cX8_goesChanged 263 = .ok (.iload 4, 2) := by decide +kernel
theorem dX8_goesChanged_265 : decode cX8_goesChanged 265 = .ok (.iaload, 1) := by decide +kernel
theorem dX8_goesChanged_266 : decode cX8_goesChanged 266 = .ok (.iadd, 1) := by decide +kernel
theorem dX8_goesChanged_267 : decode cX8_goesChanged 267 = .ok (.invokestatic 342, 3) := by decide +kernel
theorem dX8_goesChanged_270 : decode cX8_goesChanged 270 = .ok (.istore_n 3, 1) := by decide +kernel
theorem dX8_goesChanged_271 : decode cX8_goesChanged 271 = .ok (.iinc 4 1, 3) := by decide +kernel
theorem dX8_goesChanged_274 : decode cX8_goesChanged 274 = .ok (.goto (-61), 3) := by decide +kernel
theorem dX8_goesChanged_277 : decode cX8_goesChanged 277 = .ok (.iload_n 3, 1) := by decide +kernel
theorem dX8_goesChanged_278 : decode cX8_goesChanged 278 = .ok (.ireturn, 1) := by decide +kernel
set_option maxRecDepth 20000 in
theorem ggX8_changes_X8_isMachine : GoodIn wsX8_changes wsX8_isMachine := goodIn_g _ [(7, 4), (6, 1), (11, 1), (43, 47)] (by exact rfl) (by decide +kernel)
set_option maxRecDepth 20000 in
theorem gX8_changes_X8_isMachine : GoodIn wsX8_changes (wsV RX8 204 RX8 yX8_isMachine wsX8_isMachine) := goodIn_app (goodIn_of _ (by decide +kernel)) ggX8_changes_X8_isMachine
set_option maxRecDepth 20000 in
theorem ggX8_changes_X8_isFine : GoodIn wsX8_changes wsX8_isFine := goodIn_g _ [(15, 2), (43, 47)] (by exact rfl) (by decide +kernel)
set_option maxRecDepth 20000 in
theorem gX8_changes_X8_isFine : GoodIn wsX8_changes (wsV RX8 138 RX8 yX8_isFine wsX8_isFine) := goodIn_app (goodIn_of _ (by decide +kernel)) ggX8_changes_X8_isFine
set_option maxRecDepth 20000 in
theorem ggX8_changes_X8_restsOfChanges : GoodIn wsX8_changes wsX8_restsOfChanges := goodIn_g _ [(20, 1), (1, 1), (21, 1), (2, 1), (22, 7), (6, 1), (29, 61)] (by exact rfl) (by decide +kernel)
set_option maxRecDepth 20000 in
theorem gX8_changes_X8_restsOfChanges : GoodIn wsX8_changes (wsV RX8 348 RX8 yX8_restsOfChanges wsX8_restsOfChanges) := goodIn_app (goodIn_of _ (by decide +kernel)) ggX8_changes_X8_restsOfChanges
theorem dX8_changes_0 : decode cX8_changes 0 = .ok (.aload_n 0, 1) := by decide +kernel
theorem dX8_changes_1 : decode cX8_changes 1 = .ok (.aload_n 0, 1) := by decide +kernel
theorem dX8_changes_2 : decode cX8_changes 2 = .ok (.iload_n 1, 1) := by decide +kernel
theorem dX8_changes_3 : decode cX8_changes 3 = .ok (.invokevirtual 204, 3) := by decide +kernel
theorem dX8_changes_6 : decode cX8_changes 6 = .ok (.ifCond .eq 7, 3) := by decide +kernel
theorem dX8_changes_9 : decode cX8_changes 9 = .ok (.iconst 0, 1) := by decide +kernel
theorem dX8_changes_10 : decode cX8_changes 10 = .ok (.goto 4, 3) := by decide +kernel
theorem dX8_changes_13 : decode cX8_changes 13 = .ok (.iconst 1, 1) := by decide +kernel
theorem dX8_changes_14 : decode cX8_changes 14 = .ok (.invokevirtual 138, 3) := by decide +kernel
theorem dX8_changes_17 : decode cX8_changes 17 = .ok (.ifCond .ne 5, 3) := by decide +kernel
theorem dX8_changes_20 : decode cX8_changes 20 = .ok (.iconst 0, 1) := by decide +kernel
theorem dX8_changes_21 : decode cX8_changes 21 = .ok (.ireturn, 1) := by decide +kernel
theorem dX8_changes_22 : decode cX8_changes 22 = .ok (.aload_n 0, 1) := by decide +kernel
theorem dX8_changes_23 : decode cX8_changes 23 = .ok (.iload_n 1, 1) := by decide +kernel
theorem dX8_changes_24 : decode cX8_changes 24 = .ok (.invokevirtual 348, 3) := by decide +kernel
theorem dX8_changes_27 : decode cX8_changes 27 = .ok (.aload_n 0, 1) := by decide +kernel
theorem dX8_changes_28 : decode cX8_changes 28 = .ok (.getfield 96, 3) := by decide +kernel
theorem dX8_changes_31 : decode cX8_changes 31 = .ok (.iconst 0, 1) := by decide +kernel
theorem dX8_changes_32 : decode cX8_changes 32 = .ok (.iaload, 1) := by decide +kernel
theorem dX8_changes_33 : decode cX8_changes 33 = .ok (.ldc_w 284, 3) := by decide +kernel
theorem dX8_changes_36 : decode cX8_changes 36 = .ok (.if_icmp .ne 7, 3) := by decide +kernel
theorem dX8_changes_39 : decode cX8_changes 39 = .ok (.iconst (-1), 1) := by decide +kernel
theorem dX8_changes_40 : decode cX8_changes 40 = .ok (.goto 9, 3) := by decide +kernel
theorem dX8_changes_43 : decode cX8_changes 43 = .ok (.aload_n 0, 1) := by decide +kernel
theorem dX8_changes_44 : decode cX8_changes 44 = .ok (.getfield 96, 3) := by decide +kernel
theorem dX8_changes_47 : decode cX8_changes 47 = .ok (.iconst 0, 1) := by decide +kernel
theorem dX8_changes_48 : decode cX8_changes 48 = .ok (.iaload, 1) := by decide +kernel
theorem dX8_changes_49 : decode cX8_changes 49 = .ok (.ireturn, 1) := by decide +kernel
set_option maxRecDepth 20000 in
theorem ggX8_tellsMended_X8_begins_ : GoodIn wsX8_tellsMended wsX8_begins_ := goodIn_g _ [(8, 4), (47, 47)] (by exact rfl) (by decide +kernel)
set_option maxRecDepth 20000 in
theorem gX8_tellsMended_X8_begins_ : GoodIn wsX8_tellsMended (wsV RX8 324 RX8 yX8_begins_ wsX8_begins_) := goodIn_app (goodIn_of _ (by decide +kernel)) ggX8_tellsMended_X8_begins_
set_option maxRecDepth 20000 in
theorem ggX8_tellsMended_X8_closesChanges : GoodIn wsX8_tellsMended wsX8_closesChanges := goodIn_g _ [(15, 2), (9, 1), (17, 7), (7, 1), (24, 1), (10, 1), (25, 3), (47, 47)] (by exact rfl) (by decide +kernel)
set_option maxRecDepth 20000 in
theorem gX8_tellsMended_X8_closesChanges : GoodIn wsX8_tellsMended (wsV RX8 351 RX8 yX8_closesChanges wsX8_closesChanges) := goodIn_app (goodIn_of _ (by decide +kernel)) ggX8_tellsMended_X8_closesChanges
set_option maxRecDepth 20000 in
theorem ggX8_tellsMended_X8_isDoneFor : GoodIn wsX8_tellsMended wsX8_isDoneFor := goodIn_g _ [(31, 2), (9, 1), (16, 1), (33, 3), (7, 1), (36, 2), (47, 47)] (by exact rfl) (by decide +kernel)
set_option maxRecDepth 20000 in
theorem gX8_tellsMended_X8_isDoneFor : GoodIn wsX8_tellsMended (wsV RX8 330 RX8 yX8_isDoneFor wsX8_isDoneFor) := goodIn_app (goodIn_of _ (by decide +kernel)) ggX8_tellsMended_X8_isDoneFor
set_option maxRecDepth 20000 in
theorem ggX8_tellsMended_X8_goesChanged : GoodIn wsX8_tellsMended wsX8_goesChanged := goodIn_g _ [(41, 1), (11, 1), (10, 1), (17, 1), (16, 1), (18, 1), (9, 1), (19, 2), (1, 1), (21, 3), (7, 1), (24, 4), (42, 52)] (by exact rfl) (by decide +kernel)
set_option maxRecDepth 20000 in
theorem gX8_tellsMended_X8_goesChanged : GoodIn wsX8_tellsMended (wsV RX8 354 RX8 yX8_goesChanged wsX8_goesChanged) := goodIn_app (goodIn_of _ (by decide +kernel)) ggX8_tellsMended_X8_goesChanged
theorem dX8_tellsMended_0 : decode cX8_tellsMended 0 = .ok (.aload_n 0, 1) := by decide +kernel
theorem dX8_tellsMended_1 : decode cX8_tellsMended 1 = .ok (.getfield 96, 3) := by decide +kernel
theorem dX8_tellsMended_4 : decode cX8_tellsMended 4 = .ok (.iconst 0, 1) := by decide +kernel
theorem dX8_tellsMended_5 : decode cX8_tellsMended 5 = .ok (.iaload, 1) := by decide +kernel
theorem dX8_tellsMended_6 : decode cX8_tellsMended 6 = .ok (.istore_n 2, 1) := by decide +kernel
theorem dX8_tellsMended_7 : decode cX8_tellsMended 7 = .ok (.aload_n 0, 1) := by decide +kernel
theorem dX8_tellsMended_8 : decode cX8_tellsMended 8 = .ok (.iconst 1, 1) := by decide +kernel
theorem dX8_tellsMended_9 : decode cX8_tellsMended 9 = .ok (.invokevirtual 324, 3) := by decide +kernel
theorem dX8_tellsMended_12 : decode cX8_tellsMended 12 = .ok (.aload_n 0, 1) := by decide +kernel
theorem dX8_tellsMended_13 : decode cX8_tellsMended 13 = .ok (.iload_n 1, 1) := by decide +kernel
theorem dX8_tellsMended_14 : decode cX8_tellsMended 14 = .ok (.invokevirtual 351, 3) := by decide +kernel
theorem dX8_tellsMended_17 : decode cX8_tellsMended 17 = .ok (.aload_n 0, 1) := by decide +kernel
theorem dX8_tellsMended_18 : decode cX8_tellsMended 18 = .ok (.iconst 0, 1) := by decide +kernel
theorem dX8_tellsMended_19 : decode cX8_tellsMended 19 = .ok (.putfield 314, 3) := by decide +kernel
theorem dX8_tellsMended_22 : decode cX8_tellsMended 22 = .ok (.aload_n 0, 1) := by decide +kernel
theorem dX8_tellsMended_23 : decode cX8_tellsMended 23 = .ok (.iload_n 1, 1) := by decide +kernel
theorem dX8_tellsMended_24 : decode cX8_tellsMended 24 = .ok (.iload_n 2, 1) := by decide +kernel
theorem dX8_tellsMended_25 : decode cX8_tellsMended 25 = .ok (.invokevirtual 330, 3) := by decide +kernel
theorem dX8_tellsMended_28 : decode cX8_tellsMended 28 = .ok (.ifCond .ne 54, 3) := by decide +kernel
theorem dX8_tellsMended_31 : decode cX8_tellsMended 31 = .ok (.iconst 0, 1) := by decide +kernel
theorem dX8_tellsMended_32 : decode cX8_tellsMended 32 = .ok (.istore_n 3, 1) := by decide +kernel
theorem dX8_tellsMended_33 : decode cX8_tellsMended 33 = .ok (.aload_n 0, 1) := by decide +kernel
theorem dX8_tellsMended_34 : decode cX8_tellsMended 34 = .ok (.iload_n 1, 1) := by decide +kernel
theorem dX8_tellsMended_35 : decode cX8_tellsMended 35 = .ok (.iload_n 3, 1) := by decide +kernel
theorem dX8_tellsMended_36 : decode cX8_tellsMended 36 = .ok (.invokevirtual 354, 3) := by decide +kernel
theorem dX8_tellsMended_39 : decode cX8_tellsMended 39 = .ok (.iload_n 2, 1) := by decide +kernel
theorem dX8_tellsMended_40 : decode cX8_tellsMended 40 = .ok (.if_icmp .eq 9, 3) := by decide +kernel
theorem dX8_tellsMended_43 : decode cX8_tellsMended 43 = .ok (.iinc 3 1, 3) := by decide +kernel
theorem dX8_tellsMended_46 : decode cX8_tellsMended 46 = .ok (.goto (-13), 3) := by decide +kernel
theorem dX8_tellsMended_49 : decode cX8_tellsMended 49 = .ok (.aload_n 0, 1) := by decide +kernel
theorem dX8_tellsMended_50 : decode cX8_tellsMended 50 = .ok (.iconst 0, 1) := by decide +kernel
theorem dX8_tellsMended_51 : decode cX8_tellsMended 51 = .ok (.invokevirtual 324, 3) := by decide +kernel
theorem dX8_tellsMended_54 : decode cX8_tellsMended 54 = .ok (.aload_n 0, 1) := by decide +kernel
theorem dX8_tellsMended_55 : decode cX8_tellsMended 55 = .ok (.iload_n 1, 1) := by decide +kernel
theorem dX8_tellsMended_56 : decode cX8_tellsMended 56 = .ok (.invokevirtual 351, 3) := by decide +kernel
theorem dX8_tellsMended_59 : decode cX8_tellsMended 59 = .ok (.aload_n 0, 1) := by decide +kernel
theorem dX8_tellsMended_60 : decode cX8_tellsMended 60 = .ok (.getfield 112, 3) := by decide +kernel
theorem dX8_tellsMended_63 : decode cX8_tellsMended 63 = .ok (.aload_n 0, 1) := by decide +kernel
theorem dX8_tellsMended_64 : decode cX8_tellsMended 64 = .ok (.getfield 314, 3) := by decide +kernel
theorem dX8_tellsMended_67 : decode cX8_tellsMended 67 = .ok (.iload_n 3, 1) := by decide +kernel
theorem dX8_tellsMended_68 : decode cX8_tellsMended 68 = .ok (.iastore, 1) := by decide +kernel
theorem dX8_tellsMended_69 : decode cX8_tellsMended 69 = .ok (.aload_n 0, 1) := by decide +kernel
theorem dX8_tellsMended_70 : decode cX8_tellsMended 70 = .ok (.dup, 1) := by decide +kernel
theorem dX8_tellsMended_71 : decode cX8_tellsMended 71 = .ok (.getfield 314, 3) := by decide +kernel
theorem dX8_tellsMended_74 : decode cX8_tellsMended 74 = .ok (.iconst 1, 1) := by decide +kernel
theorem dX8_tellsMended_75 : decode cX8_tellsMended 75 = .ok (.iadd, 1) := by decide +kernel
theorem dX8_tellsMended_76 : decode cX8_tellsMended 76 = .ok (.putfield 314, 3) := by decide +kernel
theorem dX8_tellsMended_79 : decode cX8_tellsMended 79 = .ok (.goto (-57), 3) := by decide +kernel
theorem dX8_tellsMended_82 : decode cX8_tellsMended 82 = .ok (.return_, 1) := by decide +kernel
set_option maxRecDepth 20000 in
theorem ggX8_mended_X8_isMachine : GoodIn wsX8_mended wsX8_isMachine := goodIn_g _ [(7, 4), (6, 1), (11, 1), (72, 47)] (by exact rfl) (by decide +kernel)
set_option maxRecDepth 20000 in
theorem gX8_mended_X8_isMachine : GoodIn wsX8_mended (wsV RX8 204 RX8 yX8_isMachine wsX8_isMachine) := goodIn_app (goodIn_of _ (by decide +kernel)) ggX8_mended_X8_isMachine
set_option maxRecDepth 20000 in
theorem ggX8_mended_X8_isFine : GoodIn wsX8_mended wsX8_isFine := goodIn_g _ [(15, 2), (72, 47)] (by exact rfl) (by decide +kernel)
set_option maxRecDepth 20000 in
theorem gX8_mended_X8_isFine : GoodIn wsX8_mended (wsV RX8 138 RX8 yX8_isFine wsX8_isFine) := goodIn_app (goodIn_of _ (by decide +kernel)) ggX8_mended_X8_isFine
set_option maxRecDepth 20000 in
theorem ggX8_mended_X8_restsOfChanges : GoodIn wsX8_mended wsX8_restsOfChanges := goodIn_g _ [(20, 1), (1, 1), (21, 1), (2, 1), (22, 7), (6, 1), (29, 14), (72, 47)] (by exact rfl) (by decide +kernel)
set_option maxRecDepth 20000 in
theorem gX8_mended_X8_restsOfChanges : GoodIn wsX8_mended (wsV RX8 348 RX8 yX8_restsOfChanges wsX8_restsOfChanges) := goodIn_app (goodIn_of _ (by decide +kernel)) ggX8_mended_X8_restsOfChanges
set_option maxRecDepth 20000 in
theorem ggX8_mended_X8_tellsMended : GoodIn wsX8_mended wsX8_tellsMended := goodIn_g _ [(46, 1), (1, 1), (47, 5), (6, 1), (52, 2), (2, 1), (54, 5), (21, 3), (25, 1), (24, 1), (31, 7), (59, 5), (26, 5), (64, 4), (38, 5), (72, 47)] (by exact rfl) (by decide +kernel)
set_option maxRecDepth 20000 in
theorem gX8_mended_X8_tellsMended : GoodIn wsX8_mended (wsV RX8 357 RX8 yX8_tellsMended wsX8_tellsMended) := goodIn_app (goodIn_of _ (by decide +kernel)) ggX8_mended_X8_tellsMended
set_option maxRecDepth 20000 in
theorem ggX8_mended_X8_letterAt : GoodIn wsX8_mended wsX8_letterAt := goodIn_g _ [(71, 1), (47, 2), (72, 47)] (by exact rfl) (by decide +kernel)
set_option maxRecDepth 20000 in
theorem gX8_mended_X8_letterAt : GoodIn wsX8_mended (wsV RX8 321 RX8 yX8_letterAt wsX8_letterAt) := goodIn_app (goodIn_of _ (by decide +kernel)) ggX8_mended_X8_letterAt
theorem dX8_mended_0 : decode cX8_mended 0 = .ok (.aload_n 0, 1) := by decide +kernel
theorem dX8_mended_1 : decode cX8_mended 1 = .ok (.aload_n 0, 1) := by decide +kernel
theorem dX8_mended_2 : decode cX8_mended 2 = .ok (.iload_n 1, 1) := by decide +kernel
theorem dX8_mended_3 : decode cX8_mended 3 = .ok (.invokevirtual 204, 3) := by decide +kernel
theorem dX8_mended_6 : decode cX8_mended 6 = .ok (.ifCond .eq 11, 3) := by decide +kernel
theorem dX8_mended_9 : decode cX8_mended 9 = .ok (.iload_n 2, 1) := by decide +kernel
theorem dX8_mended_10 : decode cX8_mended 10 = .ok (.ifCond .lt 7, 3) := by decide +kernel
theorem dX8_mended_13 : decode cX8_mended 13 = .ok (.iconst 0, 1) := by decide +kernel
theorem dX8_mended_14 : decode cX8_mended 14 = .ok (.goto 4, 3) := by decide +kernel
theorem dX8_mended_17 : decode cX8_mended 17 = .ok (.iconst 1, 1) := by decide +kernel
theorem dX8_mended_18 : decode cX8_mended 18 = .ok (.invokevirtual 138, 3) := by decide +kernel
theorem dX8_mended_21 : decode cX8_mended 21 = .ok (.ifCond .ne 5, 3) := by decide +kernel
theorem dX8_mended_24 : decode cX8_mended 24 = .ok (.iconst 0, 1) := by decide +kernel
theorem dX8_mended_25 : decode cX8_mended 25 = .ok (.ireturn, 1) := by decide +kernel
theorem dX8_mended_26 : decode cX8_mended 26 = .ok (.aload_n 0, 1) := by decide +kernel
theorem dX8_mended_27 : decode cX8_mended 27 = .ok (.iload_n 1, 1) := by decide +kernel
theorem dX8_mended_28 : decode cX8_mended 28 = .ok (.invokevirtual 348, 3) := by decide +kernel
theorem dX8_mended_31 : decode cX8_mended 31 = .ok (.aload_n 0, 1) := by decide +kernel
theorem dX8_mended_32 : decode cX8_mended 32 = .ok (.getfield 96, 3) := by decide +kernel
theorem dX8_mended_35 : decode cX8_mended 35 = .ok (.iconst 0, 1) := by decide +kernel
theorem dX8_mended_36 : decode cX8_mended 36 = .ok (.iaload, 1) := by decide +kernel
theorem dX8_mended_37 : decode cX8_mended 37 = .ok (.ldc_w 284, 3) := by decide +kernel
theorem dX8_mended_40 : decode cX8_mended 40 = .ok (.if_icmp .ne 5, 3) := by decide +kernel
theorem dX8_mended_43 : decode cX8_mended 43 = .ok (.iconst (-1), 1) := by decide +kernel
theorem dX8_mended_44 : decode cX8_mended 44 = .ok (.ireturn, 1) := by decide +kernel
theorem dX8_mended_45 : decode cX8_mended 45 = .ok (.aload_n 0, 1) := by decide +kernel
theorem dX8_mended_46 : decode cX8_mended 46 = .ok (.iload_n 1, 1) := by decide +kernel
theorem dX8_mended_47 : decode cX8_mended 47 = .ok (.invokevirtual 357, 3) := by decide +kernel
theorem dX8_mended_50 : decode cX8_mended 50 = .ok (.aload_n 0, 1) := by decide +kernel
theorem dX8_mended_51 : decode cX8_mended 51 = .ok (.iload_n 2, 1) := by decide +kernel
theorem dX8_mended_52 : decode cX8_mended 52 = .ok (.invokevirtual 321, 3) := by decide +kernel
theorem dX8_mended_55 : decode cX8_mended 55 = .ok (.ireturn, 1) := by decide +kernel
set_option maxRecDepth 20000 in
theorem ggX8_apart_X8_isMachine : GoodIn wsX8_apart wsX8_isMachine := goodIn_g _ [(8, 4), (7, 1), (12, 1), (55, 47)] (by exact rfl) (by decide +kernel)
set_option maxRecDepth 20000 in
theorem gX8_apart_X8_isMachine : GoodIn wsX8_apart (wsV RX8 204 RX8 yX8_isMachine wsX8_isMachine) := goodIn_app (goodIn_of _ (by decide +kernel)) ggX8_apart_X8_isMachine
set_option maxRecDepth 20000 in
theorem ggX8_apart_X8_isPlainOf : GoodIn wsX8_apart wsX8_isPlainOf := goodIn_g _ [(16, 5), (55, 47)] (by exact rfl) (by decide +kernel)
set_option maxRecDepth 20000 in
theorem gX8_apart_X8_isPlainOf : GoodIn wsX8_apart (wsV RX8 263 RX8 yX8_isPlainOf wsX8_isPlainOf) := goodIn_app (goodIn_of _ (by decide +kernel)) ggX8_apart_X8_isPlainOf
set_option maxRecDepth 20000 in
theorem ggX8_apart_X8_looks : GoodIn wsX8_apart wsX8_looks := goodIn_g _ [(24, 1), (1, 1), (25, 6), (7, 1), (31, 1), (17, 2), (32, 6), (2, 2), (38, 7), (55, 47)] (by exact rfl) (by decide +kernel)
set_option maxRecDepth 20000 in
theorem gX8_apart_X8_looks : GoodIn wsX8_apart (wsV RX8 250 RX8 yX8_looks wsX8_looks) := goodIn_app (goodIn_of _ (by decide +kernel)) ggX8_apart_X8_looks
set_option maxRecDepth 20000 in
theorem ggX8_apart_X8_isFine : GoodIn wsX8_apart wsX8_isFine := goodIn_g _ [(48, 2), (55, 47)] (by exact rfl) (by decide +kernel)
set_option maxRecDepth 20000 in
theorem gX8_apart_X8_isFine : GoodIn wsX8_apart (wsV RX8 138 RX8 yX8_isFine wsX8_isFine) := goodIn_app (goodIn_of _ (by decide +kernel)) ggX8_apart_X8_isFine
set_option maxRecDepth 20000 in
theorem ggX8_apart_X8_isAccepted : GoodIn wsX8_apart wsX8_isAccepted := goodIn_g _ [(53, 1), (25, 1), (54, 1), (26, 1), (55, 47)] (by exact rfl) (by decide +kernel)
set_option maxRecDepth 20000 in
theorem gX8_apart_X8_isAccepted : GoodIn wsX8_apart (wsV RX8 253 RX8 yX8_isAccepted wsX8_isAccepted) := goodIn_app (goodIn_of _ (by decide +kernel)) ggX8_apart_X8_isAccepted
theorem dX8_apart_0 : decode cX8_apart 0 = .ok (.aload_n 0, 1) := by decide +kernel
theorem dX8_apart_1 : decode cX8_apart 1 = .ok (.iload_n 1, 1) := by decide +kernel
theorem dX8_apart_2 : decode cX8_apart 2 = .ok (.invokevirtual 204, 3) := by decide +kernel
theorem dX8_apart_5 : decode cX8_apart 5 = .ok (.ifCond .eq 19, 3) := by decide +kernel
theorem dX8_apart_8 : decode cX8_apart 8 = .ok (.aload_n 0, 1) := by decide +kernel
theorem dX8_apart_9 : decode cX8_apart 9 = .ok (.iload_n 2, 1) := by decide +kernel
theorem dX8_apart_10 : decode cX8_apart 10 = .ok (.invokevirtual 204, 3) := by decide +kernel
theorem dX8_apart_13 : decode cX8_apart 13 = .ok (.ifCond .eq 11, 3) := by decide +kernel
theorem dX8_apart_16 : decode cX8_apart 16 = .ok (.iload_n 3, 1) := by decide +kernel
theorem dX8_apart_17 : decode cX8_apart 17 = .ok (.ifCond .lt 7, 3) := by decide +kernel
theorem dX8_apart_20 : decode cX8_apart 20 = .ok (.iconst 1, 1) := by decide +kernel
theorem dX8_apart_21 : decode cX8_apart 21 = .ok (.goto 4, 3) := by decide +kernel
theorem dX8_apart_24 : decode cX8_apart 24 = .ok (.iconst 0, 1) := by decide +kernel
theorem dX8_apart_25 : decode cX8_apart 25 = .ok (.istore 4, 2) := by decide +kernel
theorem dX8_apart_27 : decode cX8_apart 27 = .ok (.iload 4, 2) := by decide +kernel
theorem dX8_apart_29 : decode cX8_apart 29 = .ok (.ifCond .eq 23, 3) := by decide +kernel
theorem dX8_apart_32 : decode cX8_apart 32 = .ok (.aload_n 0, 1) := by decide +kernel
theorem dX8_apart_33 : decode cX8_apart 33 = .ok (.iload_n 1, 1) := by decide +kernel
theorem dX8_apart_34 : decode cX8_apart 34 = .ok (.invokevirtual 263, 3) := by decide +kernel
theorem dX8_apart_37 : decode cX8_apart 37 = .ok (.ifCond .eq 15, 3) := by decide +kernel
theorem dX8_apart_40 : decode cX8_apart 40 = .ok (.aload_n 0, 1) := by decide +kernel
theorem dX8_apart_41 : decode cX8_apart 41 = .ok (.iload_n 2, 1) := by decide +kernel
theorem dX8_apart_42 : decode cX8_apart 42 = .ok (.invokevirtual 263, 3) := by decide +kernel
theorem dX8_apart_45 : decode cX8_apart 45 = .ok (.ifCond .eq 7, 3) := by decide +kernel
theorem dX8_apart_48 : decode cX8_apart 48 = .ok (.iconst 1, 1) := by decide +kernel
theorem dX8_apart_49 : decode cX8_apart 49 = .ok (.goto 4, 3) := by decide +kernel
theorem dX8_apart_52 : decode cX8_apart 52 = .ok (.iconst 0, 1) := by decide +kernel
theorem dX8_apart_53 : decode cX8_apart 53 = .ok (.istore 5, 2) := by decide +kernel
theorem dX8_apart_55 : decode cX8_apart 55 = .ok (.aload_n 0, 1) := by decide +kernel
theorem dX8_apart_56 : decode cX8_apart 56 = .ok (.iload 4, 2) := by decide +kernel
theorem dX8_apart_58 : decode cX8_apart 58 = .ok (.ifCond .ne 7, 3) := by decide +kernel
theorem dX8_apart_61 : decode cX8_apart 61 = .ok (.iconst 1, 1) := by decide +kernel
theorem dX8_apart_62 : decode cX8_apart 62 = .ok (.goto 23, 3) := by decide +kernel
theorem dX8_apart_65 : decode cX8_apart 65 = .ok (.iload 5, 2) := by decide +kernel
theorem dX8_apart_67 : decode cX8_apart 67 = .ok (.ifCond .eq 13, 3) := by decide +kernel
theorem dX8_apart_70 : decode cX8_apart 70 = .ok (.aload_n 0, 1) := by decide +kernel
theorem dX8_apart_71 : decode cX8_apart 71 = .ok (.iload_n 1, 1) := by decide +kernel
theorem dX8_apart_72 : decode cX8_apart 72 = .ok (.iload_n 2, 1) := by decide +kernel
theorem dX8_apart_73 : decode cX8_apart 73 = .ok (.iconst 3, 1) := by decide +kernel
theorem dX8_apart_74 : decode cX8_apart 74 = .ok (.invokevirtual 250, 3) := by decide +kernel
theorem dX8_apart_77 : decode cX8_apart 77 = .ok (.ifCond .ne 7, 3) := by decide +kernel
theorem dX8_apart_80 : decode cX8_apart 80 = .ok (.iconst 2, 1) := by decide +kernel
theorem dX8_apart_81 : decode cX8_apart 81 = .ok (.goto 4, 3) := by decide +kernel
theorem dX8_apart_84 : decode cX8_apart 84 = .ok (.iconst 0, 1) := by decide +kernel
theorem dX8_apart_85 : decode cX8_apart 85 = .ok (.invokevirtual 138, 3) := by decide +kernel
theorem dX8_apart_88 : decode cX8_apart 88 = .ok (.ifCond .ne 5, 3) := by decide +kernel
theorem dX8_apart_91 : decode cX8_apart 91 = .ok (.iconst 0, 1) := by decide +kernel
theorem dX8_apart_92 : decode cX8_apart 92 = .ok (.ireturn, 1) := by decide +kernel
theorem dX8_apart_93 : decode cX8_apart 93 = .ok (.iconst 0, 1) := by decide +kernel
theorem dX8_apart_94 : decode cX8_apart 94 = .ok (.istore 6, 2) := by decide +kernel
theorem dX8_apart_96 : decode cX8_apart 96 = .ok (.iload 6, 2) := by decide +kernel
theorem dX8_apart_98 : decode cX8_apart 98 = .ok (.aload_n 0, 1) := by decide +kernel
theorem dX8_apart_99 : decode cX8_apart 99 = .ok (.getfield 233, 3) := by decide +kernel
theorem dX8_apart_102 : decode cX8_apart 102 = .ok (.if_icmp .ge 21, 3) := by decide +kernel
theorem dX8_apart_105 : decode cX8_apart 105 = .ok (.aload_n 0, 1) := by decide +kernel
theorem dX8_apart_106 : decode cX8_apart 106 = .ok (.iload 6, 2) := by decide +kernel
theorem dX8_apart_108 : decode cX8_apart 108 = .ok (.iload_n 1, 1) := by decide +kernel
theorem dX8_apart_109 : decode cX8_apart 109 = .ok (.iload_n 2, 1) := by decide +kernel
theorem dX8_apart_110 : decode cX8_apart 110 = .ok (.iconst 3, 1) := by decide +kernel
theorem dX8_apart_111 : decode cX8_apart 111 = .ok (.invokevirtual 253, 3) := by decide +kernel
theorem dX8_apart_114 : decode cX8_apart 114 = .ok (.ifCond .ne 9, 3) := by decide +kernel
theorem dX8_apart_117 : decode cX8_apart 117 = .ok (.iinc 6 1, 3) := by decide +kernel
theorem dX8_apart_120 : decode cX8_apart 120 = .ok (.goto (-24), 3) := by decide +kernel
theorem dX8_apart_123 : decode cX8_apart 123 = .ok (.iload 6, 2) := by decide +kernel
theorem dX8_apart_125 : decode cX8_apart 125 = .ok (.aload_n 0, 1) := by decide +kernel
theorem dX8_apart_126 : decode cX8_apart 126 = .ok (.getfield 233, 3) := by decide +kernel
theorem dX8_apart_129 : decode cX8_apart 129 = .ok (.if_icmp .ne 5, 3) := by decide +kernel
theorem dX8_apart_132 : decode cX8_apart 132 = .ok (.iconst (-1), 1) := by decide +kernel
theorem dX8_apart_133 : decode cX8_apart 133 = .ok (.ireturn, 1) := by decide +kernel
theorem dX8_apart_134 : decode cX8_apart 134 = .ok (.iconst 0, 1) := by decide +kernel
theorem dX8_apart_135 : decode cX8_apart 135 = .ok (.istore 7, 2) := by decide +kernel
theorem dX8_apart_137 : decode cX8_apart 137 = .ok (.iload 6, 2) := by decide +kernel
theorem dX8_apart_139 : decode cX8_apart 139 = .ok (.istore 8, 2) := by decide +kernel
theorem dX8_apart_141 : decode cX8_apart 141 = .ok (.aload_n 0, 1) := by decide +kernel
theorem dX8_apart_142 : decode cX8_apart 142 = .ok (.getfield 84, 3) := by decide +kernel
theorem dX8_apart_145 : decode cX8_apart 145 = .ok (.iload 8, 2) := by decide +kernel
theorem dX8_apart_147 : decode cX8_apart 147 = .ok (.iaload, 1) := by decide +kernel
theorem dX8_apart_148 : decode cX8_apart 148 = .ok (.iconst (-1), 1) := by decide +kernel
theorem dX8_apart_149 : decode cX8_apart 149 = .ok (.if_icmp .eq 18, 3) := by decide +kernel
theorem dX8_apart_152 : decode cX8_apart 152 = .ok (.iinc 7 1, 3) := by decide +kernel
theorem dX8_apart_155 : decode cX8_apart 155 = .ok (.aload_n 0, 1) := by decide +kernel
theorem dX8_apart_156 : decode cX8_apart 156 = .ok (.getfield 84, 3) := by decide +kernel
theorem dX8_apart_159 : decode cX8_apart 159 = .ok (.iload 8, 2) := by decide +kernel
theorem dX8_apart_161 : decode cX8_apart 161 = .ok (.iaload, 1) := by decide +kernel
theorem dX8_apart_162 : decode cX8_apart 162 = .ok (.istore 8, 2) := by decide +kernel
theorem dX8_apart_164 : decode cX8_apart 164 = .ok (.goto (-23), 3) := by decide +kernel
theorem dX8_apart_167 : decode cX8_apart 167 = .ok (.iload_n 3, 1) := by decide +kernel
theorem dX8_apart_168 : decode cX8_apart 168 = .ok (.iload 7, 2) := by decide +kernel
theorem dX8_apart_170 : decode cX8_apart 170 = .ok (.if_icmp .lt 6, 3) := by decide +kernel
theorem dX8_apart_173 : decode cX8_apart 173 = .ok (.bipush 8, 2) := by decide +kernel
theorem dX8_apart_175 : decode cX8_apart 175 = .ok (.ireturn, 1) := by decide +kernel
theorem dX8_apart_176 : decode cX8_apart 176 = .ok (.iload 7, 2) := by decide +kernel
theorem dX8_apart_178 : decode cX8_apart 178 = .ok (.iconst 1, 1) := by decide +kernel
theorem dX8_apart_179 : decode cX8_apart 179 = .ok (.isub, 1) := by decide +kernel
theorem dX8_apart_180 : decode cX8_apart 180 = .ok (.istore 8, 2) := by decide +kernel
theorem dX8_apart_182 : decode cX8_apart 182 = .ok (.iload 8, 2) := by decide +kernel
theorem dX8_apart_184 : decode cX8_apart 184 = .ok (.iload_n 3, 1) := by decide +kernel
theorem dX8_apart_185 : decode cX8_apart 185 = .ok (.if_icmp .le 18, 3) := by decide +kernel
theorem dX8_apart_188 : decode cX8_apart 188 = .ok (.aload_n 0, 1) := by decide +kernel
theorem dX8_apart_189 : decode cX8_apart 189 = .ok (.getfield 84, 3) := by decide +kernel
theorem dX8_apart_192 : decode cX8_apart 192 = .ok (.iload 6, 2) := by decide +kernel
theorem dX8_apart_194 : decode cX8_apart 194 = .ok (.iaload, 1) := by decide +kernel
theorem dX8_apart_195 : decode cX8_apart 195 = .ok (.istore 6, 2) := by decide +kernel
theorem dX8_apart_197 : decode cX8_apart 197 = .ok (.iinc 8 (-1), 3) := by decide +kernel
theorem dX8_apart_200 : decode cX8_apart 200 = .ok (.goto (-18), 3) := by decide +kernel
theorem dX8_apart_203 : decode cX8_apart 203 = .ok (.aload_n 0, 1) := by decide +kernel
theorem dX8_apart_204 : decode cX8_apart 204 = .ok (.getfield 87, 3) := by decide +kernel
theorem dX8_apart_207 : decode cX8_apart 207 = .ok (.iload 6, 2) := by decide +kernel
theorem dX8_apart_209 : decode cX8_apart 209 = .ok (.iaload, 1) := by decide +kernel
theorem dX8_apart_210 : decode cX8_apart 210 = .ok (.ireturn, 1) := by decide +kernel
set_option maxRecDepth 20000 in
theorem ggX8_ruled_X8_isRule : GoodIn wsX8_ruled wsX8_isRule := goodIn_g _ [(6, 3), (5, 1), (9, 1)] (by exact rfl) (by decide +kernel)
set_option maxRecDepth 20000 in
theorem gX8_ruled_X8_isRule : GoodIn wsX8_ruled (va_wsS RX8 273 yX8_isRule wsX8_isRule) := goodIn_app (goodIn_of _ (by decide +kernel)) ggX8_ruled_X8_isRule
set_option maxRecDepth 20000 in
theorem ggX8_ruled_X8_isFine : GoodIn wsX8_ruled wsX8_isFine := goodIn_g _ [(13, 49)] (by exact rfl) (by decide +kernel)
set_option maxRecDepth 20000 in
theorem gX8_ruled_X8_isFine : GoodIn wsX8_ruled (wsV RX8 138 RX8 yX8_isFine wsX8_isFine) := goodIn_app (goodIn_of _ (by decide +kernel)) ggX8_ruled_X8_isFine
theorem dX8_ruled_0 : decode cX8_ruled 0 = .ok (.aload_n 0, 1) := by decide +kernel
theorem dX8_ruled_1 : decode cX8_ruled 1 = .ok (.iload 5, 2) := by decide +kernel
theorem dX8_ruled_3 : decode cX8_ruled 3 = .ok (.ifCond .ge 7, 3) := by decide +kernel
theorem dX8_ruled_6 : decode cX8_ruled 6 = .ok (.iconst 1, 1) := by decide +kernel
theorem dX8_ruled_7 : decode cX8_ruled 7 = .ok (.goto 19, 3) := by decide +kernel
theorem dX8_ruled_10 : decode cX8_ruled 10 = .ok (.iload_n 1, 1) := by decide +kernel
theorem dX8_ruled_11 : decode cX8_ruled 11 = .ok (.iload_n 2, 1) := by decide +kernel
theorem dX8_ruled_12 : decode cX8_ruled 12 = .ok (.iload_n 3, 1) := by decide +kernel
theorem dX8_ruled_13 : decode cX8_ruled 13 = .ok (.iload 4, 2) := by decide +kernel
theorem dX8_ruled_15 : decode cX8_ruled 15 = .ok (.invokestatic 273, 3) := by decide +kernel
theorem dX8_ruled_18 : decode cX8_ruled 18 = .ok (.ifCond .ne 7, 3) := by decide +kernel
theorem dX8_ruled_21 : decode cX8_ruled 21 = .ok (.iconst 2, 1) := by decide +kernel
theorem dX8_ruled_22 : decode cX8_ruled 22 = .ok (.goto 4, 3) := by decide +kernel
theorem dX8_ruled_25 : decode cX8_ruled 25 = .ok (.iconst 0, 1) := by decide +kernel
theorem dX8_ruled_26 : decode cX8_ruled 26 = .ok (.invokevirtual 138, 3) := by decide +kernel
theorem dX8_ruled_29 : decode cX8_ruled 29 = .ok (.ifCond .ne 5, 3) := by decide +kernel
theorem dX8_ruled_32 : decode cX8_ruled 32 = .ok (.iconst 0, 1) := by decide +kernel
theorem dX8_ruled_33 : decode cX8_ruled 33 = .ok (.ireturn, 1) := by decide +kernel
theorem dX8_ruled_34 : decode cX8_ruled 34 = .ok (.iconst 0, 1) := by decide +kernel
theorem dX8_ruled_35 : decode cX8_ruled 35 = .ok (.istore 6, 2) := by decide +kernel
theorem dX8_ruled_37 : decode cX8_ruled 37 = .ok (.iconst 0, 1) := by decide +kernel
theorem dX8_ruled_38 : decode cX8_ruled 38 = .ok (.istore 7, 2) := by decide +kernel
theorem dX8_ruled_40 : decode cX8_ruled 40 = .ok (.iload 7, 2) := by decide +kernel
theorem dX8_ruled_42 : decode cX8_ruled 42 = .ok (.aload_n 0, 1) := by decide +kernel
theorem dX8_ruled_43 : decode cX8_ruled 43 = .ok (.getfield 135, 3) := by decide +kernel
theorem dX8_ruled_46 : decode cX8_ruled 46 = .ok (.if_icmp .ge 145, 3) := by decide +kernel
theorem dX8_ruled_49 : decode cX8_ruled 49 = .ok (.iload_n 3, 1) := by decide +kernel
theorem dX8_ruled_50 : decode cX8_ruled 50 = .ok (.iconst (-1), 1) := by decide +kernel
theorem dX8_ruled_51 : decode cX8_ruled 51 = .ok (.if_icmp .eq 21, 3) := by decide +kernel
theorem dX8_ruled_54 : decode cX8_ruled 54 = .ok (.iload 7, 2) := by decide +kernel
theorem dX8_ruled_56 : decode cX8_ruled 56 = .ok (.ifCond .le 20, 3) := by decide +kernel
theorem dX8_ruled_59 : decode cX8_ruled 59 = .ok (.aload_n 0, 1) := by decide +kernel
theorem dX8_ruled_60 : decode cX8_ruled 60 = .ok (.getfield 7, 3) := by decide +kernel
theorem dX8_ruled_63 : decode cX8_ruled 63 = .ok (.iload 7, 2) := by decide +kernel
theorem dX8_ruled_65 : decode cX8_ruled 65 = .ok (.iconst 1, 1) := by decide +kernel
theorem dX8_ruled_66 : decode cX8_ruled 66 = .ok (.isub, 1) := by decide +kernel
theorem dX8_ruled_67 : decode cX8_ruled 67 = .ok (.iaload, 1) := by decide +kernel
theorem dX8_ruled_68 : decode cX8_ruled 68 = .ok (.iload_n 3, 1) := by decide +kernel
theorem dX8_ruled_69 : decode cX8_ruled 69 = .ok (.if_icmp .ne 7, 3) := by decide +kernel
theorem dX8_ruled_72 : decode cX8_ruled 72 = .ok (.iconst 1, 1) := by decide +kernel
theorem dX8_ruled_73 : decode cX8_ruled 73 = .ok (.goto 4, 3) := by decide +kernel
theorem dX8_ruled_76 : decode cX8_ruled 76 = .ok (.iconst 0, 1) := by decide +kernel
theorem dX8_ruled_77 : decode cX8_ruled 77 = .ok (.istore 8, 2) := by decide +kernel
theorem dX8_ruled_79 : decode cX8_ruled 79 = .ok (.iload 4, 2) := by decide +kernel
theorem dX8_ruled_81 : decode cX8_ruled 81 = .ok (.iconst (-1), 1) := by decide +kernel
theorem dX8_ruled_82 : decode cX8_ruled 82 = .ok (.if_icmp .eq 28, 3) := by decide +kernel
theorem dX8_ruled_85 : decode cX8_ruled 85 = .ok (.iload 7, 2) := by decide +kernel
theorem dX8_ruled_87 : decode cX8_ruled 87 = .ok (.iconst 1, 1) := by decide +kernel
theorem dX8_ruled_88 : decode cX8_ruled 88 = .ok (.iadd, 1) := by decide +kernel
theorem dX8_ruled_89 : decode cX8_ruled 89 = .ok (.aload_n 0, 1) := by decide +kernel
theorem dX8_ruled_90 : decode cX8_ruled 90 = .ok (.getfield 135, 3) := by decide +kernel
theorem dX8_ruled_93 : decode cX8_ruled 93 = .ok (.if_icmp .ge 21, 3) := by decide +kernel
theorem dX8_ruled_96 : decode cX8_ruled 96 = .ok (.aload_n 0, 1) := by decide +kernel
theorem dX8_ruled_97 : decode cX8_ruled 97 = .ok (.getfield 7, 3) := by decide +kernel
theorem dX8_ruled_100 : decode cX8_ruled 100 = .ok (.iload 7, 2) := by decide +kernel
theorem dX8_ruled_102 : decode cX8_ruled 102 = .ok (.iconst 1, 1) := by decide +kernel
theorem dX8_ruled_103 : decode cX8_ruled 103 = .ok (.iadd, 1) := by decide +kernel
theorem dX8_ruled_104 : decode cX8_ruled 104 = .ok (.iaload, 1) := by decide +kernel
theorem dX8_ruled_105 : decode cX8_ruled 105 = .ok (.iload 4, 2) := by decide +kernel
theorem dX8_ruled_107 : decode cX8_ruled 107 = .ok (.if_icmp .ne 7, 3) := by decide +kernel
theorem dX8_ruled_110 : decode cX8_ruled 110 = .ok (.iconst 1, 1) := by decide +kernel
theorem dX8_ruled_111 : decode cX8_ruled 111 = .ok (.goto 4, 3) := by decide +kernel
theorem dX8_ruled_114 : decode cX8_ruled 114 = .ok (.iconst 0, 1) := by decide +kernel
theorem dX8_ruled_115 : decode cX8_ruled 115 = .ok (.istore 9, 2) := by decide +kernel
theorem dX8_ruled_117 : decode cX8_ruled 117 = .ok (.aload_n 0, 1) := by decide +kernel
theorem dX8_ruled_118 : decode cX8_ruled 118 = .ok (.getfield 7, 3) := by decide +kernel
theorem dX8_ruled_121 : decode cX8_ruled 121 = .ok (.iload 7, 2) := by decide +kernel
theorem dX8_ruled_123 : decode cX8_ruled 123 = .ok (.iaload, 1) := by decide +kernel
theorem dX8_ruled_124 : decode cX8_ruled 124 = .ok (.iload_n 1, 1) := by decide +kernel
theorem dX8_ruled_125 : decode cX8_ruled 125 = .ok (.if_icmp .ne 17, 3) := by decide +kernel
theorem dX8_ruled_128 : decode cX8_ruled 128 = .ok (.iload 8, 2) := by decide +kernel
theorem dX8_ruled_130 : decode cX8_ruled 130 = .ok (.ifCond .eq 12, 3) := by decide +kernel
theorem dX8_ruled_133 : decode cX8_ruled 133 = .ok (.iload 9, 2) := by decide +kernel
theorem dX8_ruled_135 : decode cX8_ruled 135 = .ok (.ifCond .eq 7, 3) := by decide +kernel
theorem dX8_ruled_138 : decode cX8_ruled 138 = .ok (.iload_n 2, 1) := by decide +kernel
theorem dX8_ruled_139 : decode cX8_ruled 139 = .ok (.goto 10, 3) := by decide +kernel
theorem dX8_ruled_142 : decode cX8_ruled 142 = .ok (.aload_n 0, 1) := by decide +kernel
theorem dX8_ruled_143 : decode cX8_ruled 143 = .ok (.getfield 7, 3) := by decide +kernel
theorem dX8_ruled_146 : decode cX8_ruled 146 = .ok (.iload 7, 2) := by decide +kernel
theorem dX8_ruled_148 : decode cX8_ruled 148 = .ok (.iaload, 1) := by decide +kernel
theorem dX8_ruled_149 : decode cX8_ruled 149 = .ok (.istore 10, 2) := by decide +kernel
theorem dX8_ruled_151 : decode cX8_ruled 151 = .ok (.iload 10, 2) := by decide +kernel
theorem dX8_ruled_153 : decode cX8_ruled 153 = .ok (.bipush 8, 2) := by decide +kernel
theorem dX8_ruled_155 : decode cX8_ruled 155 = .ok (.if_icmp .eq 13, 3) := by decide +kernel
theorem dX8_ruled_158 : decode cX8_ruled 158 = .ok (.iload 6, 2) := by decide +kernel
theorem dX8_ruled_160 : decode cX8_ruled 160 = .ok (.iload 5, 2) := by decide +kernel
theorem dX8_ruled_162 : decode cX8_ruled 162 = .ok (.if_icmp .ne 6, 3) := by decide +kernel
theorem dX8_ruled_165 : decode cX8_ruled 165 = .ok (.iload 10, 2) := by decide +kernel
theorem dX8_ruled_167 : decode cX8_ruled 167 = .ok (.ireturn, 1) := by decide +kernel
theorem dX8_ruled_168 : decode cX8_ruled 168 = .ok (.iload 6, 2) := by decide +kernel
theorem dX8_ruled_170 : decode cX8_ruled 170 = .ok (.iload 10, 2) := by decide +kernel
theorem dX8_ruled_172 : decode cX8_ruled 172 = .ok (.bipush 8, 2) := by decide +kernel
theorem dX8_ruled_174 : decode cX8_ruled 174 = .ok (.if_icmp .ne 7, 3) := by decide +kernel
theorem dX8_ruled_177 : decode cX8_ruled 177 = .ok (.iconst 0, 1) := by decide +kernel
theorem dX8_ruled_178 : decode cX8_ruled 178 = .ok (.goto 4, 3) := by decide +kernel
theorem dX8_ruled_181 : decode cX8_ruled 181 = .ok (.iconst 1, 1) := by decide +kernel
theorem dX8_ruled_182 : decode cX8_ruled 182 = .ok (.iadd, 1) := by decide +kernel
theorem dX8_ruled_183 : decode cX8_ruled 183 = .ok (.istore 6, 2) := by decide +kernel
theorem dX8_ruled_185 : decode cX8_ruled 185 = .ok (.iinc 7 1, 3) := by decide +kernel
theorem dX8_ruled_188 : decode cX8_ruled 188 = .ok (.goto (-148), 3) := by decide +kernel
theorem dX8_ruled_191 : decode cX8_ruled 191 = .ok (.bipush 8, 2) := by decide +kernel
theorem dX8_ruled_193 : decode cX8_ruled 193 = .ok (.ireturn, 1) := by decide +kernel
set_option maxRecDepth 20000 in
theorem ggX8_learn_X8_isIn : GoodIn wsX8_learn wsX8_isIn := goodIn_g _ [(10, 1)] (by exact rfl) (by decide +kernel)
set_option maxRecDepth 20000 in
theorem gX8_learn_X8_isIn : GoodIn wsX8_learn (va_wsS RX8 131 yX8_isIn wsX8_isIn) := goodIn_app (goodIn_of _ (by decide +kernel)) ggX8_learn_X8_isIn
set_option maxRecDepth 20000 in
theorem ggX8_learn_X8_isFine : GoodIn wsX8_learn wsX8_isFine := goodIn_g _ [(14, 49)] (by exact rfl) (by decide +kernel)
set_option maxRecDepth 20000 in
theorem gX8_learn_X8_isFine : GoodIn wsX8_learn (wsV RX8 138 RX8 yX8_isFine wsX8_isFine) := goodIn_app (goodIn_of _ (by decide +kernel)) ggX8_learn_X8_isFine
theorem dX8_learn_0 : decode cX8_learn 0 = .ok (.aload_n 0, 1) := by decide +kernel
theorem dX8_learn_1 : decode cX8_learn 1 = .ok (.iload_n 1, 1) := by decide +kernel
theorem dX8_learn_2 : decode cX8_learn 2 = .ok (.iconst 0, 1) := by decide +kernel
theorem dX8_learn_3 : decode cX8_learn 3 = .ok (.iconst 5, 1) := by decide +kernel
theorem dX8_learn_4 : decode cX8_learn 4 = .ok (.invokestatic 131, 3) := by decide +kernel
theorem dX8_learn_7 : decode cX8_learn 7 = .ok (.ifCond .ne 7, 3) := by decide +kernel
theorem dX8_learn_10 : decode cX8_learn 10 = .ok (.iconst 1, 1) := by decide +kernel
theorem dX8_learn_11 : decode cX8_learn 11 = .ok (.goto 17, 3) := by decide +kernel
theorem dX8_learn_14 : decode cX8_learn 14 = .ok (.aload_n 0, 1) := by decide +kernel
theorem dX8_learn_15 : decode cX8_learn 15 = .ok (.getfield 360, 3) := by decide +kernel
theorem dX8_learn_18 : decode cX8_learn 18 = .ok (.bipush 30, 2) := by decide +kernel
theorem dX8_learn_20 : decode cX8_learn 20 = .ok (.if_icmp .ne 7, 3) := by decide +kernel
theorem dX8_learn_23 : decode cX8_learn 23 = .ok (.iconst 2, 1) := by decide +kernel
theorem dX8_learn_24 : decode cX8_learn 24 = .ok (.goto 4, 3) := by decide +kernel
theorem dX8_learn_27 : decode cX8_learn 27 = .ok (.iconst 0, 1) := by decide +kernel
theorem dX8_learn_28 : decode cX8_learn 28 = .ok (.invokevirtual 138, 3) := by decide +kernel
theorem dX8_learn_31 : decode cX8_learn 31 = .ok (.ifCond .ne 5, 3) := by decide +kernel
theorem dX8_learn_34 : decode cX8_learn 34 = .ok (.iconst 0, 1) := by decide +kernel
theorem dX8_learn_35 : decode cX8_learn 35 = .ok (.ireturn, 1) := by decide +kernel
theorem dX8_learn_36 : decode cX8_learn 36 = .ok (.iconst 0, 1) := by decide +kernel
theorem dX8_learn_37 : decode cX8_learn 37 = .ok (.istore_n 2, 1) := by decide +kernel
theorem dX8_learn_38 : decode cX8_learn 38 = .ok (.iload_n 2, 1) := by decide +kernel
theorem dX8_learn_39 : decode cX8_learn 39 = .ok (.aload_n 0, 1) := by decide +kernel
theorem dX8_learn_40 : decode cX8_learn 40 = .ok (.getfield 135, 3) := by decide +kernel
theorem dX8_learn_43 : decode cX8_learn 43 = .ok (.if_icmp .ge 29, 3) := by decide +kernel
theorem dX8_learn_46 : decode cX8_learn 46 = .ok (.aload_n 0, 1) := by decide +kernel
theorem dX8_learn_47 : decode cX8_learn 47 = .ok (.getfield 115, 3) := by decide +kernel
theorem dX8_learn_50 : decode cX8_learn 50 = .ok (.bipush 8, 2) := by decide +kernel
theorem dX8_learn_52 : decode cX8_learn 52 = .ok (.aload_n 0, 1) := by decide +kernel
theorem dX8_learn_53 : decode cX8_learn 53 = .ok (.getfield 360, 3) := by decide +kernel
theorem dX8_learn_56 : decode cX8_learn 56 = .ok (.imul, 1) := by decide +kernel
theorem dX8_learn_57 : decode cX8_learn 57 = .ok (.iload_n 2, 1) := by decide +kernel
theorem dX8_learn_58 : decode cX8_learn 58 = .ok (.iadd, 1) := by decide +kernel
theorem dX8_learn_59 : decode cX8_learn 59 = .ok (.aload_n 0, 1) := by decide +kernel
theorem dX8_learn_60 : decode cX8_learn 60 = .ok (.getfield 7, 3) := by decide +kernel
theorem dX8_learn_63 : decode cX8_learn 63 = .ok (.iload_n 2, 1) := by decide +kernel
theorem dX8_learn_64 : decode cX8_learn 64 = .ok (.iaload, 1) := by decide +kernel
theorem dX8_learn_65 : decode cX8_learn 65 = .ok (.iastore, 1) := by decide +kernel
theorem dX8_learn_66 : decode cX8_learn 66 = .ok (.iinc 2 1, 3) := by decide +kernel
theorem dX8_learn_69 : decode cX8_learn 69 = .ok (.goto (-31), 3) := by decide +kernel
theorem dX8_learn_72 : decode cX8_learn 72 = .ok (.aload_n 0, 1) := by decide +kernel
theorem dX8_learn_73 : decode cX8_learn 73 = .ok (.getfield 118, 3) := by decide +kernel
theorem dX8_learn_76 : decode cX8_learn 76 = .ok (.aload_n 0, 1) := by decide +kernel
theorem dX8_learn_77 : decode cX8_learn 77 = .ok (.getfield 360, 3) := by decide +kernel
theorem dX8_learn_80 : decode cX8_learn 80 = .ok (.aload_n 0, 1) := by decide +kernel
theorem dX8_learn_81 : decode cX8_learn 81 = .ok (.getfield 135, 3) := by decide +kernel
theorem dX8_learn_84 : decode cX8_learn 84 = .ok (.iastore, 1) := by decide +kernel
theorem dX8_learn_85 : decode cX8_learn 85 = .ok (.aload_n 0, 1) := by decide +kernel
theorem dX8_learn_86 : decode cX8_learn 86 = .ok (.getfield 121, 3) := by decide +kernel
theorem dX8_learn_89 : decode cX8_learn 89 = .ok (.aload_n 0, 1) := by decide +kernel
theorem dX8_learn_90 : decode cX8_learn 90 = .ok (.getfield 360, 3) := by decide +kernel
theorem dX8_learn_93 : decode cX8_learn 93 = .ok (.iload_n 1, 1) := by decide +kernel
theorem dX8_learn_94 : decode cX8_learn 94 = .ok (.iastore, 1) := by decide +kernel
theorem dX8_learn_95 : decode cX8_learn 95 = .ok (.aload_n 0, 1) := by decide +kernel
theorem dX8_learn_96 : decode cX8_learn 96 = .ok (.dup, 1) := by decide +kernel
theorem dX8_learn_97 : decode cX8_learn 97 = .ok (.getfield 360, 3) := by decide +kernel
theorem dX8_learn_100 : decode cX8_learn 100 = .ok (.iconst 1, 1) := by decide +kernel
theorem dX8_learn_101 : decode cX8_learn 101 = .ok (.iadd, 1) := by decide +kernel
theorem dX8_learn_102 : decode cX8_learn 102 = .ok (.putfield 360, 3) := by decide +kernel
theorem dX8_learn_105 : decode cX8_learn 105 = .ok (.aload_n 0, 1) := by decide +kernel
theorem dX8_learn_106 : decode cX8_learn 106 = .ok (.getfield 360, 3) := by decide +kernel
theorem dX8_learn_109 : decode cX8_learn 109 = .ok (.ireturn, 1) := by decide +kernel
theorem dX8_inCommon_0 : decode cX8_inCommon 0 = .ok (.iconst 0, 1) := by decide +kernel
theorem dX8_inCommon_1 : decode cX8_inCommon 1 = .ok (.istore_n 2, 1) := by decide +kernel
theorem dX8_inCommon_2 : decode cX8_inCommon 2 = .ok (.iload_n 2, 1) := by decide +kernel
theorem dX8_inCommon_3 : decode cX8_inCommon 3 = .ok (.aload_n 0, 1) := by decide +kernel
theorem dX8_inCommon_4 : decode cX8_inCommon 4 = .ok (.getfield 135, 3) := by decide +kernel
theorem dX8_inCommon_7 : decode cX8_inCommon 7 = .ok (.if_icmp .ge 55, 3) := by decide +kernel
theorem dX8_inCommon_10 : decode cX8_inCommon 10 = .ok (.iload_n 2, 1) := by decide +kernel
theorem dX8_inCommon_11 : decode cX8_inCommon 11 = .ok (.aload_n 0, 1) := by decide +kernel
theorem dX8_inCommon_12 : decode cX8_inCommon 12 = .ok (.getfield 118, 3) := by decide +kernel
theorem dX8_inCommon_15 : decode cX8_inCommon 15 = .ok (.iload_n 1, 1) := by decide +kernel
theorem dX8_inCommon_16 : decode cX8_inCommon 16 = .ok (.iaload, 1) := by decide +kernel
theorem dX8_inCommon_17 : decode cX8_inCommon 17 = .ok (.if_icmp .ge 45, 3) := by decide +kernel
theorem dX8_inCommon_20 : decode cX8_inCommon 20 = .ok (.aload_n 0, 1) := by decide +kernel
theorem dX8_inCommon_21 : decode cX8_inCommon 21 = .ok (.getfield 115, 3) := by decide +kernel
theorem dX8_inCommon_24 : decode cX8_inCommon 24 = .ok (.bipush 8, 2) := by decide +kernel
theorem dX8_inCommon_26 : decode cX8_inCommon 26 = .ok (.iload_n 1, 1) := by decide +kernel
theorem dX8_inCommon_27 : decode cX8_inCommon 27 = .ok (.imul, 1) := by decide +kernel
theorem dX8_inCommon_28 : decode cX8_inCommon 28 = .ok (.aload_n 0, 1) := by decide +kernel
theorem dX8_inCommon_29 : decode cX8_inCommon 29 = .ok (.getfield 118, 3) := by decide +kernel
theorem dX8_inCommon_32 : decode cX8_inCommon 32 = .ok (.iload_n 1, 1) := by decide +kernel
theorem dX8_inCommon_33 : decode cX8_inCommon 33 = .ok (.iaload, 1) := by decide +kernel
theorem dX8_inCommon_34 : decode cX8_inCommon 34 = .ok (.iadd, 1) := by decide +kernel
theorem dX8_inCommon_35 : decode cX8_inCommon 35 = .ok (.iconst 1, 1) := by decide +kernel
theorem dX8_inCommon_36 : decode cX8_inCommon 36 = .ok (.isub, 1) := by decide +kernel
theorem dX8_inCommon_37 : decode cX8_inCommon 37 = .ok (.iload_n 2, 1) := by decide +kernel
theorem dX8_inCommon_38 : decode cX8_inCommon 38 = .ok (.isub, 1) := by decide +kernel
theorem dX8_inCommon_39 : decode cX8_inCommon 39 = .ok (.iaload, 1) := by decide +kernel
theorem dX8_inCommon_40 : decode cX8_inCommon 40 = .ok (.aload_n 0, 1) := by decide +kernel
theorem dX8_inCommon_41 : decode cX8_inCommon 41 = .ok (.getfield 7, 3) := by decide +kernel
theorem dX8_inCommon_44 : decode cX8_inCommon 44 = .ok (.aload_n 0, 1) := by decide +kernel
theorem dX8_inCommon_45 : decode cX8_inCommon 45 = .ok (.getfield 135, 3) := by decide +kernel
theorem dX8_inCommon_48 : decode cX8_inCommon 48 = .ok (.iconst 1, 1) := by decide +kernel
theorem dX8_inCommon_49 : decode cX8_inCommon 49 = .ok (.isub, 1) := by decide +kernel
theorem dX8_inCommon_50 : decode cX8_inCommon 50 = .ok (.iload_n 2, 1) := by decide +kernel
theorem dX8_inCommon_51 : decode cX8_inCommon 51 = .ok (.isub, 1) := by decide +kernel
theorem dX8_inCommon_52 : decode cX8_inCommon 52 = .ok (.iaload, 1) := by decide +kernel
theorem dX8_inCommon_53 : decode cX8_inCommon 53 = .ok (.if_icmp .ne 9, 3) := by decide +kernel
theorem dX8_inCommon_56 : decode cX8_inCommon 56 = .ok (.iinc 2 1, 3) := by decide +kernel
theorem dX8_inCommon_59 : decode cX8_inCommon 59 = .ok (.goto (-57), 3) := by decide +kernel
theorem dX8_inCommon_62 : decode cX8_inCommon 62 = .ok (.iload_n 2, 1) := by decide +kernel
theorem dX8_inCommon_63 : decode cX8_inCommon 63 = .ok (.ireturn, 1) := by decide +kernel
set_option maxRecDepth 20000 in
theorem ggX8_guess_X8_inCommon : GoodIn wsX8_guess wsX8_inCommon := goodIn_g _ [(8, 5), (16, 47)] (by exact rfl) (by decide +kernel)
set_option maxRecDepth 20000 in
theorem gX8_guess_X8_inCommon : GoodIn wsX8_guess (wsV RX8 363 RX8 yX8_inCommon wsX8_inCommon) := goodIn_app (goodIn_of _ (by decide +kernel)) ggX8_guess_X8_inCommon
set_option maxRecDepth 20000 in
theorem ggX8_guess_X8_lesser : GoodIn wsX8_guess wsX8_lesser := goodIn_g _ [(15, 1)] (by exact rfl) (by decide +kernel)
set_option maxRecDepth 20000 in
theorem gX8_guess_X8_lesser : GoodIn wsX8_guess (va_wsS RX8 342 yX8_lesser wsX8_lesser) := goodIn_app (goodIn_of _ (by decide +kernel)) ggX8_guess_X8_lesser
theorem dX8_guess_0 : decode cX8_guess 0 = .ok (.aload_n 0, 1) := by decide +kernel
theorem dX8_guess_1 : decode cX8_guess 1 = .ok (.iconst 0, 1) := by decide +kernel
theorem dX8_guess_2 : decode cX8_guess 2 = .ok (.putfield 124, 3) := by decide +kernel
theorem dX8_guess_5 : decode cX8_guess 5 = .ok (.iconst 0, 1) := by decide +kernel
theorem dX8_guess_6 : decode cX8_guess 6 = .ok (.istore_n 1, 1) := by decide +kernel
theorem dX8_guess_7 : decode cX8_guess 7 = .ok (.iconst 0, 1) := by decide +kernel
theorem dX8_guess_8 : decode cX8_guess 8 = .ok (.istore_n 2, 1) := by decide +kernel
theorem dX8_guess_9 : decode cX8_guess 9 = .ok (.iload_n 2, 1) := by decide +kernel
theorem dX8_guess_10 : decode cX8_guess 10 = .ok (.aload_n 0, 1) := by decide +kernel
theorem dX8_guess_11 : decode cX8_guess 11 = .ok (.getfield 360, 3) := by decide +kernel
theorem dX8_guess_14 : decode cX8_guess 14 = .ok (.if_icmp .ge 28, 3) := by decide +kernel
theorem dX8_guess_17 : decode cX8_guess 17 = .ok (.aload_n 0, 1) := by decide +kernel
theorem dX8_guess_18 : decode cX8_guess 18 = .ok (.iload_n 2, 1) := by decide +kernel
theorem dX8_guess_19 : decode cX8_guess 19 = .ok (.invokevirtual 363, 3) := by decide +kernel
theorem dX8_guess_22 : decode cX8_guess 22 = .ok (.iload_n 1, 1) := by decide +kernel
theorem dX8_guess_23 : decode cX8_guess 23 = .ok (.if_icmp .le 11, 3) := by decide +kernel
theorem dX8_guess_26 : decode cX8_guess 26 = .ok (.aload_n 0, 1) := by decide +kernel
theorem dX8_guess_27 : decode cX8_guess 27 = .ok (.iload_n 2, 1) := by decide +kernel
theorem dX8_guess_28 : decode cX8_guess 28 = .ok (.invokevirtual 363, 3) := by decide +kernel
theorem dX8_guess_31 : decode cX8_guess 31 = .ok (.goto 4, 3) := by decide +kernel
theorem dX8_guess_34 : decode cX8_guess 34 = .ok (.iload_n 1, 1) := by decide +kernel
theorem dX8_guess_35 : decode cX8_guess 35 = .ok (.istore_n 1, 1) := by decide +kernel
theorem dX8_guess_36 : decode cX8_guess 36 = .ok (.iinc 2 1, 3) := by decide +kernel
theorem dX8_guess_39 : decode cX8_guess 39 = .ok (.goto (-30), 3) := by decide +kernel
theorem dX8_guess_42 : decode cX8_guess 42 = .ok (.iload_n 1, 1) := by decide +kernel
theorem dX8_guess_43 : decode cX8_guess 43 = .ok (.ifCond .ne 5, 3) := by decide +kernel
theorem dX8_guess_46 : decode cX8_guess 46 = .ok (.iconst (-1), 1) := by decide +kernel
theorem dX8_guess_47 : decode cX8_guess 47 = .ok (.ireturn, 1) := by decide +kernel
theorem dX8_guess_48 : decode cX8_guess 48 = .ok (.iconst 0, 1) := by decide +kernel
theorem dX8_guess_49 : decode cX8_guess 49 = .ok (.istore_n 2, 1) := by decide +kernel
theorem dX8_guess_50 : decode cX8_guess 50 = .ok (.iconst 0, 1) := by decide +kernel
theorem dX8_guess_51 : decode cX8_guess 51 = .ok (.istore_n 3, 1) := by decide +kernel
theorem dX8_guess_52 : decode cX8_guess 52 = .ok (.iconst 0, 1) := by decide +kernel
theorem dX8_guess_53 : decode cX8_guess 53 = .ok (.istore 4, 2) := by decide +kernel
theorem dX8_guess_55 : decode cX8_guess 55 = .ok (.iload 4, 2) := by decide +kernel
theorem dX8_guess_57 : decode cX8_guess 57 = .ok (.bipush 6, 2) := by decide +kernel
theorem dX8_guess_59 : decode cX8_guess 59 = .ok (.if_icmp .ge 88, 3) := by decide +kernel
theorem dX8_guess_62 : decode cX8_guess 62 = .ok (.iconst 0, 1) := by decide +kernel
theorem dX8_guess_63 : decode cX8_guess 63 = .ok (.istore 5, 2) := by decide +kernel
theorem dX8_guess_65 : decode cX8_guess 65 = .ok (.iconst 0, 1) := by decide +kernel
theorem dX8_guess_66 : decode cX8_guess 66 = .ok (.istore 6, 2) := by decide +kernel
theorem dX8_guess_68 : decode cX8_guess 68 = .ok (.iload 6, 2) := by decide +kernel
theorem dX8_guess_70 : decode cX8_guess 70 = .ok (.aload_n 0, 1) := by decide +kernel
theorem dX8_guess_71 : decode cX8_guess 71 = .ok (.getfield 360, 3) := by decide +kernel
theorem dX8_guess_74 : decode cX8_guess 74 = .ok (.if_icmp .ge 41, 3) := by decide +kernel
theorem dX8_guess_77 : decode cX8_guess 77 = .ok (.iload 5, 2) := by decide +kernel
theorem dX8_guess_79 : decode cX8_guess 79 = .ok (.aload_n 0, 1) := by decide +kernel
theorem dX8_guess_80 : decode cX8_guess 80 = .ok (.getfield 121, 3) := by decide +kernel
theorem dX8_guess_83 : decode cX8_guess 83 = .ok (.iload 6, 2) := by decide +kernel
theorem dX8_guess_85 : decode cX8_guess 85 = .ok (.iaload, 1) := by decide +kernel
theorem dX8_guess_86 : decode cX8_guess 86 = .ok (.iload 4, 2) := by decide +kernel
theorem dX8_guess_88 : decode cX8_guess 88 = .ok (.if_icmp .ne 17, 3) := by decide +kernel
theorem dX8_guess_91 : decode cX8_guess 91 = .ok (.aload_n 0, 1) := by decide +kernel
theorem dX8_guess_92 : decode cX8_guess 92 = .ok (.iload 6, 2) := by decide +kernel
theorem dX8_guess_94 : decode cX8_guess 94 = .ok (.invokevirtual 363, 3) := by decide +kernel
theorem dX8_guess_97 : decode cX8_guess 97 = .ok (.iload_n 1, 1) := by decide +kernel
theorem dX8_guess_98 : decode cX8_guess 98 = .ok (.if_icmp .ne 7, 3) := by decide +kernel
theorem dX8_guess_101 : decode cX8_guess 101 = .ok (.iconst 1, 1) := by decide +kernel
theorem dX8_guess_102 : decode cX8_guess 102 = .ok (.goto 4, 3) := by decide +kernel
theorem dX8_guess_105 : decode cX8_guess 105 = .ok (.iconst 0, 1) := by decide +kernel
theorem dX8_guess_106 : decode cX8_guess 106 = .ok (.iadd, 1) := by decide +kernel
theorem dX8_guess_107 : decode cX8_guess 107 = .ok (.istore 5, 2) := by decide +kernel
theorem dX8_guess_109 : decode cX8_guess 109 = .ok (.iinc 6 1, 3) := by decide +kernel
theorem dX8_guess_112 : decode cX8_guess 112 = .ok (.goto (-44), 3) := by decide +kernel
theorem dX8_guess_115 : decode cX8_guess 115 = .ok (.iload 5, 2) := by decide +kernel
theorem dX8_guess_117 : decode cX8_guess 117 = .ok (.iload_n 2, 1) := by decide +kernel
theorem dX8_guess_118 : decode cX8_guess 118 = .ok (.if_icmp .le 8, 3) := by decide +kernel
theorem dX8_guess_121 : decode cX8_guess 121 = .ok (.iload 4, 2) := by decide +kernel
theorem dX8_guess_123 : decode cX8_guess 123 = .ok (.goto 4, 3) := by decide +kernel
theorem dX8_guess_126 : decode cX8_guess 126 = .ok (.iload_n 3, 1) := by decide +kernel
theorem dX8_guess_127 : decode cX8_guess 127 = .ok (.istore_n 3, 1) := by decide +kernel
theorem dX8_guess_128 : decode cX8_guess 128 = .ok (.iload 5, 2) := by decide +kernel
theorem dX8_guess_130 : decode cX8_guess 130 = .ok (.iload_n 2, 1) := by decide +kernel
theorem dX8_guess_131 : decode cX8_guess 131 = .ok (.if_icmp .le 8, 3) := by decide +kernel
theorem dX8_guess_134 : decode cX8_guess 134 = .ok (.iload 5, 2) := by decide +kernel
theorem dX8_guess_136 : decode cX8_guess 136 = .ok (.goto 4, 3) := by decide +kernel
theorem dX8_guess_139 : decode cX8_guess 139 = .ok (.iload_n 2, 1) := by decide +kernel
theorem dX8_guess_140 : decode cX8_guess 140 = .ok (.istore_n 2, 1) := by decide +kernel
theorem dX8_guess_141 : decode cX8_guess 141 = .ok (.iinc 4 1, 3) := by decide +kernel
theorem dX8_guess_144 : decode cX8_guess 144 = .ok (.goto (-89), 3) := by decide +kernel
theorem dX8_guess_147 : decode cX8_guess 147 = .ok (.bipush 100, 2) := by decide +kernel
theorem dX8_guess_149 : decode cX8_guess 149 = .ok (.iload_n 1, 1) := by decide +kernel
theorem dX8_guess_150 : decode cX8_guess 150 = .ok (.imul, 1) := by decide +kernel
theorem dX8_guess_151 : decode cX8_guess 151 = .ok (.bipush 10, 2) := by decide +kernel
theorem dX8_guess_153 : decode cX8_guess 153 = .ok (.iload_n 3, 1) := by decide +kernel
theorem dX8_guess_154 : decode cX8_guess 154 = .ok (.imul, 1) := by decide +kernel
theorem dX8_guess_155 : decode cX8_guess 155 = .ok (.iadd, 1) := by decide +kernel
theorem dX8_guess_156 : decode cX8_guess 156 = .ok (.iload_n 2, 1) := by decide +kernel
theorem dX8_guess_157 : decode cX8_guess 157 = .ok (.bipush 9, 2) := by decide +kernel
theorem dX8_guess_159 : decode cX8_guess 159 = .ok (.invokestatic 342, 3) := by decide +kernel
theorem dX8_guess_162 : decode cX8_guess 162 = .ok (.iadd, 1) := by decide +kernel
theorem dX8_guess_163 : decode cX8_guess 163 = .ok (.ireturn, 1) := by decide +kernel
theorem dJ9_max_7cf53_0 : decode cJ9_max_7cf53 0 = .ok (.iload_n 0, 1) := by decide +kernel
theorem dJ9_max_7cf53_1 : decode cJ9_max_7cf53 1 = .ok (.iload_n 1, 1) := by decide +kernel
theorem dJ9_max_7cf53_2 : decode cJ9_max_7cf53 2 = .ok (.if_icmp .lt 7, 3) := by decide +kernel
theorem dJ9_max_7cf53_5 : decode cJ9_max_7cf53 5 = .ok (.iload_n 0, 1) := by decide +kernel
theorem dJ9_max_7cf53_6 : decode cJ9_max_7cf53 6 = .ok (.goto 4, 3) := by decide +kernel
theorem dJ9_max_7cf53_9 : decode cJ9_max_7cf53 9 = .ok (.iload_n 1, 1) := by decide +kernel
theorem dJ9_max_7cf53_10 : decode cJ9_max_7cf53 10 = .ok (.ireturn, 1) := by decide +kernel
theorem dJ9_min_7cf53_0 : decode cJ9_min_7cf53 0 = .ok (.iload_n 0, 1) := by decide +kernel
theorem dJ9_min_7cf53_1 : decode cJ9_min_7cf53 1 = .ok (.iload_n 1, 1) := by decide +kernel
theorem dJ9_min_7cf53_2 : decode cJ9_min_7cf53 2 = .ok (.if_icmp .gt 7, 3) := by decide +kernel
theorem dJ9_min_7cf53_5 : decode cJ9_min_7cf53 5 = .ok (.iload_n 0, 1) := by decide +kernel
theorem dJ9_min_7cf53_6 : decode cJ9_min_7cf53 6 = .ok (.goto 4, 3) := by decide +kernel
theorem dJ9_min_7cf53_9 : decode cJ9_min_7cf53 9 = .ok (.iload_n 1, 1) := by decide +kernel
theorem dJ9_min_7cf53_10 : decode cJ9_min_7cf53 10 = .ok (.ireturn, 1) := by decide +kernel
