theorem dL_law_0 : decode cL_law 0 = .ok (.new 8, 3) := by decide +kernel
theorem dL_law_3 : decode cL_law 3 = .ok (.dup, 1) := by decide +kernel
theorem dL_law_4 : decode cL_law 4 = .ok (.invokespecial 106, 3) := by decide +kernel
theorem dL_law_7 : decode cL_law 7 = .ok (.astore_n 1, 1) := by decide +kernel
theorem dL_law_8 : decode cL_law 8 = .ok (.bipush 8, 2) := by decide +kernel
theorem dL_law_10 : decode cL_law 10 = .ok (.newarray .int, 2) := by decide +kernel
theorem dL_law_12 : decode cL_law 12 = .ok (.astore_n 2, 1) := by decide +kernel
theorem dL_law_13 : decode cL_law 13 = .ok (.iconst 0, 1) := by decide +kernel
theorem dL_law_14 : decode cL_law 14 = .ok (.istore_n 3, 1) := by decide +kernel
theorem dL_law_15 : decode cL_law 15 = .ok (.iconst 0, 1) := by decide +kernel
theorem dL_law_16 : decode cL_law 16 = .ok (.istore 4, 2) := by decide +kernel
theorem dL_law_18 : decode cL_law 18 = .ok (.iconst 1, 1) := by decide +kernel
theorem dL_law_19 : decode cL_law 19 = .ok (.istore 5, 2) := by decide +kernel
theorem dL_law_21 : decode cL_law 21 = .ok (.aload_n 0, 1) := by decide +kernel
theorem dL_law_22 : decode cL_law 22 = .ok (.arraylength, 1) := by decide +kernel
theorem dL_law_23 : decode cL_law 23 = .ok (.bipush 40, 2) := by decide +kernel
theorem dL_law_25 : decode cL_law 25 = .ok (.if_icmp .ge 8, 3) := by decide +kernel
theorem dL_law_28 : decode cL_law 28 = .ok (.bipush 60, 2) := by decide +kernel
theorem dL_law_30 : decode cL_law 30 = .ok (.goto 17, 3) := by decide +kernel
theorem dL_law_33 : decode cL_law 33 = .ok (.aload_n 0, 1) := by decide +kernel
theorem dL_law_34 : decode cL_law 34 = .ok (.arraylength, 1) := by decide +kernel
theorem dL_law_35 : decode cL_law 35 = .ok (.bipush 90, 2) := by decide +kernel
theorem dL_law_37 : decode cL_law 37 = .ok (.if_icmp .ge 8, 3) := by decide +kernel
theorem dL_law_40 : decode cL_law 40 = .ok (.aload_n 0, 1) := by decide +kernel
theorem dL_law_41 : decode cL_law 41 = .ok (.arraylength, 1) := by decide +kernel
theorem dL_law_42 : decode cL_law 42 = .ok (.goto 5, 3) := by decide +kernel
theorem dL_law_45 : decode cL_law 45 = .ok (.bipush 100, 2) := by decide +kernel
theorem dL_law_47 : decode cL_law 47 = .ok (.istore 6, 2) := by decide +kernel
theorem dL_law_49 : decode cL_law 49 = .ok (.iconst 0, 1) := by decide +kernel
theorem dL_law_50 : decode cL_law 50 = .ok (.istore 7, 2) := by decide +kernel
theorem dL_law_52 : decode cL_law 52 = .ok (.iload 7, 2) := by decide +kernel
theorem dL_law_54 : decode cL_law 54 = .ok (.iload 6, 2) := by decide +kernel
theorem dL_law_56 : decode cL_law 56 = .ok (.if_icmp .ge 973, 3) := by decide +kernel
theorem dL_law_59 : decode cL_law 59 = .ok (.iload 5, 2) := by decide +kernel
theorem dL_law_61 : decode cL_law 61 = .ok (.ifCond .eq 968, 3) := by decide +kernel
theorem dL_law_64 : decode cL_law 64 = .ok (.iload 7, 2) := by decide +kernel
theorem dL_law_66 : decode cL_law 66 = .ok (.aload_n 0, 1) := by decide +kernel
theorem dL_law_67 : decode cL_law 67 = .ok (.arraylength, 1) := by decide +kernel
theorem dL_law_68 : decode cL_law 68 = .ok (.if_icmp .ge 10, 3) := by decide +kernel
theorem dL_law_71 : decode cL_law 71 = .ok (.aload_n 0, 1) := by decide +kernel
theorem dL_law_72 : decode cL_law 72 = .ok (.iload 7, 2) := by decide +kernel
theorem dL_law_74 : decode cL_law 74 = .ok (.iaload, 1) := by decide +kernel
theorem dL_law_75 : decode cL_law 75 = .ok (.goto 21, 3) := by decide +kernel
theorem dL_law_78 : decode cL_law 78 = .ok (.ldc 107, 2) := by decide +kernel
theorem dL_law_80 : decode cL_law 80 = .ok (.iload 7, 2) := by decide +kernel
theorem dL_law_82 : decode cL_law 82 = .ok (.imul, 1) := by decide +kernel
theorem dL_law_83 : decode cL_law 83 = .ok (.iload 7, 2) := by decide +kernel
theorem dL_law_85 : decode cL_law 85 = .ok (.imul, 1) := by decide +kernel
theorem dL_law_86 : decode cL_law 86 = .ok (.ldc 108, 2) := by decide +kernel
theorem dL_law_88 : decode cL_law 88 = .ok (.iload 7, 2) := by decide +kernel
theorem dL_law_90 : decode cL_law 90 = .ok (.imul, 1) := by decide +kernel
theorem dL_law_91 : decode cL_law 91 = .ok (.iadd, 1) := by decide +kernel
theorem dL_law_92 : decode cL_law 92 = .ok (.sipush 263, 3) := by decide +kernel
theorem dL_law_95 : decode cL_law 95 = .ok (.iadd, 1) := by decide +kernel
theorem dL_law_96 : decode cL_law 96 = .ok (.istore 8, 2) := by decide +kernel
theorem dL_law_98 : decode cL_law 98 = .ok (.iload 8, 2) := by decide +kernel
theorem dL_law_100 : decode cL_law 100 = .ok (.iconst 4, 1) := by decide +kernel
theorem dL_law_101 : decode cL_law 101 = .ok (.ishr, 1) := by decide +kernel
theorem dL_law_102 : decode cL_law 102 = .ok (.ldc 109, 2) := by decide +kernel
theorem dL_law_104 : decode cL_law 104 = .ok (.iand, 1) := by decide +kernel
theorem dL_law_105 : decode cL_law 105 = .ok (.istore 9, 2) := by decide +kernel
theorem dL_law_107 : decode cL_law 107 = .ok (.iload 7, 2) := by decide +kernel
theorem dL_law_109 : decode cL_law 109 = .ok (.iconst 4, 1) := by decide +kernel
theorem dL_law_110 : decode cL_law 110 = .ok (.if_icmp .ge 10, 3) := by decide +kernel
theorem dL_law_113 : decode cL_law 113 = .ok (.iload 7, 2) := by decide +kernel
theorem dL_law_115 : decode cL_law 115 = .ok (.iconst 2, 1) := by decide +kernel
theorem dL_law_116 : decode cL_law 116 = .ok (.irem, 1) := by decide +kernel
theorem dL_law_117 : decode cL_law 117 = .ok (.goto 8, 3) := by decide +kernel
theorem dL_law_120 : decode cL_law 120 = .ok (.iload 8, 2) := by decide +kernel
theorem dL_law_122 : decode cL_law 122 = .ok (.bipush 15, 2) := by decide +kernel
theorem dL_law_124 : decode cL_law 124 = .ok (.iand, 1) := by decide +kernel
theorem dL_law_125 : decode cL_law 125 = .ok (.istore 10, 2) := by decide +kernel
theorem dL_law_127 : decode cL_law 127 = .ok (.iload 4, 2) := by decide +kernel
theorem dL_law_129 : decode cL_law 129 = .ok (.ifCond .ne 7, 3) := by decide +kernel
theorem dL_law_132 : decode cL_law 132 = .ok (.iconst 0, 1) := by decide +kernel
theorem dL_law_133 : decode cL_law 133 = .ok (.goto 8, 3) := by decide +kernel
theorem dL_law_136 : decode cL_law 136 = .ok (.iload 9, 2) := by decide +kernel
theorem dL_law_138 : decode cL_law 138 = .ok (.iload 4, 2) := by decide +kernel
theorem dL_law_140 : decode cL_law 140 = .ok (.irem, 1) := by decide +kernel
theorem dL_law_141 : decode cL_law 141 = .ok (.istore 11, 2) := by decide +kernel
theorem dL_law_143 : decode cL_law 143 = .ok (.iload 4, 2) := by decide +kernel
theorem dL_law_145 : decode cL_law 145 = .ok (.ifCond .ne 7, 3) := by decide +kernel
theorem dL_law_148 : decode cL_law 148 = .ok (.iconst 0, 1) := by decide +kernel
theorem dL_law_149 : decode cL_law 149 = .ok (.goto 10, 3) := by decide +kernel
theorem dL_law_152 : decode cL_law 152 = .ok (.iload 9, 2) := by decide +kernel
theorem dL_law_154 : decode cL_law 154 = .ok (.iconst 5, 1) := by decide +kernel
theorem dL_law_155 : decode cL_law 155 = .ok (.ishr, 1) := by decide +kernel
theorem dL_law_156 : decode cL_law 156 = .ok (.iload 4, 2) := by decide +kernel
theorem dL_law_158 : decode cL_law 158 = .ok (.irem, 1) := by decide +kernel
theorem dL_law_159 : decode cL_law 159 = .ok (.istore 12, 2) := by decide +kernel
theorem dL_law_161 : decode cL_law 161 = .ok (.bipush (-13), 2) := by decide +kernel
theorem dL_law_163 : decode cL_law 163 = .ok (.istore 13, 2) := by decide +kernel
theorem dL_law_165 : decode cL_law 165 = .ok (.iload 10, 2) := by decide +kernel
theorem dL_law_167 : decode cL_law 167 = .ok (.ifCond .ne 94, 3) := by decide +kernel
theorem dL_law_170 : decode cL_law 170 = .ok (.iload 9, 2) := by decide +kernel
theorem dL_law_172 : decode cL_law 172 = .ok (.iconst 1, 1) := by decide +kernel
theorem dL_law_173 : decode cL_law 173 = .ok (.ishr, 1) := by decide +kernel
theorem dL_law_174 : decode cL_law 174 = .ok (.iconst 3, 1) := by decide +kernel
theorem dL_law_175 : decode cL_law 175 = .ok (.irem, 1) := by decide +kernel
theorem dL_law_176 : decode cL_law 176 = .ok (.istore 14, 2) := by decide +kernel
theorem dL_law_178 : decode cL_law 178 = .ok (.aload_n 1, 1) := by decide +kernel
theorem dL_law_179 : decode cL_law 179 = .ok (.bipush 13, 2) := by decide +kernel
theorem dL_law_181 : decode cL_law 181 = .ok (.iload 14, 2) := by decide +kernel
theorem dL_law_183 : decode cL_law 183 = .ok (.iconst 0, 1) := by decide +kernel
theorem dL_law_184 : decode cL_law 184 = .ok (.iconst 0, 1) := by decide +kernel
theorem dL_law_185 : decode cL_law 185 = .ok (.iconst 0, 1) := by decide +kernel
theorem dL_law_186 : decode cL_law 186 = .ok (.iconst 0, 1) := by decide +kernel
theorem dL_law_187 : decode cL_law 187 = .ok (.invokestatic 93, 3) := by decide +kernel
theorem dL_law_190 : decode cL_law 190 = .ok (.istore 15, 2) := by decide +kernel
theorem dL_law_192 : decode cL_law 192 = .ok (.iload 15, 2) := by decide +kernel
theorem dL_law_194 : decode cL_law 194 = .ok (.iload_n 3, 1) := by decide +kernel
theorem dL_law_195 : decode cL_law 195 = .ok (.bipush 8, 2) := by decide +kernel
theorem dL_law_197 : decode cL_law 197 = .ok (.if_icmp .ge 9, 3) := by decide +kernel
theorem dL_law_200 : decode cL_law 200 = .ok (.iload_n 3, 1) := by decide +kernel
theorem dL_law_201 : decode cL_law 201 = .ok (.iconst 1, 1) := by decide +kernel
theorem dL_law_202 : decode cL_law 202 = .ok (.iadd, 1) := by decide +kernel
theorem dL_law_203 : decode cL_law 203 = .ok (.goto 5, 3) := by decide +kernel
theorem dL_law_206 : decode cL_law 206 = .ok (.bipush (-13), 2) := by decide +kernel
theorem dL_law_208 : decode cL_law 208 = .ok (.if_icmp .ne 7, 3) := by decide +kernel
theorem dL_law_211 : decode cL_law 211 = .ok (.iconst 1, 1) := by decide +kernel
theorem dL_law_212 : decode cL_law 212 = .ok (.goto 4, 3) := by decide +kernel
theorem dL_law_215 : decode cL_law 215 = .ok (.iconst 0, 1) := by decide +kernel
theorem dL_law_216 : decode cL_law 216 = .ok (.istore 5, 2) := by decide +kernel
theorem dL_law_218 : decode cL_law 218 = .ok (.iload_n 3, 1) := by decide +kernel
theorem dL_law_219 : decode cL_law 219 = .ok (.bipush 8, 2) := by decide +kernel
theorem dL_law_221 : decode cL_law 221 = .ok (.if_icmp .ge 14, 3) := by decide +kernel
theorem dL_law_224 : decode cL_law 224 = .ok (.aload_n 2, 1) := by decide +kernel
theorem dL_law_225 : decode cL_law 225 = .ok (.iload_n 3, 1) := by decide +kernel
theorem dL_law_226 : decode cL_law 226 = .ok (.iload 14, 2) := by decide +kernel
theorem dL_law_228 : decode cL_law 228 = .ok (.iastore, 1) := by decide +kernel
theorem dL_law_229 : decode cL_law 229 = .ok (.iinc 3 1, 3) := by decide +kernel
theorem dL_law_232 : decode cL_law 232 = .ok (.goto 26, 3) := by decide +kernel
theorem dL_law_235 : decode cL_law 235 = .ok (.iload 5, 2) := by decide +kernel
theorem dL_law_237 : decode cL_law 237 = .ok (.ifCond .eq 16, 3) := by decide +kernel
theorem dL_law_240 : decode cL_law 240 = .ok (.aload_n 1, 1) := by decide +kernel
theorem dL_law_241 : decode cL_law 241 = .ok (.invokevirtual 90, 3) := by decide +kernel
theorem dL_law_244 : decode cL_law 244 = .ok (.bipush 8, 2) := by decide +kernel
theorem dL_law_246 : decode cL_law 246 = .ok (.if_icmp .ne 7, 3) := by decide +kernel
theorem dL_law_249 : decode cL_law 249 = .ok (.iconst 1, 1) := by decide +kernel
theorem dL_law_250 : decode cL_law 250 = .ok (.goto 4, 3) := by decide +kernel
theorem dL_law_253 : decode cL_law 253 = .ok (.iconst 0, 1) := by decide +kernel
theorem dL_law_254 : decode cL_law 254 = .ok (.istore 5, 2) := by decide +kernel
theorem dL_law_256 : decode cL_law 256 = .ok (.iconst 0, 1) := by decide +kernel
theorem dL_law_257 : decode cL_law 257 = .ok (.istore_n 3, 1) := by decide +kernel
theorem dL_law_258 : decode cL_law 258 = .ok (.goto 538, 3) := by decide +kernel
theorem dL_law_261 : decode cL_law 261 = .ok (.iload 10, 2) := by decide +kernel
theorem dL_law_263 : decode cL_law 263 = .ok (.iconst 1, 1) := by decide +kernel
theorem dL_law_264 : decode cL_law 264 = .ok (.if_icmp .ne 64, 3) := by decide +kernel
theorem dL_law_267 : decode cL_law 267 = .ok (.aload_n 1, 1) := by decide +kernel
theorem dL_law_268 : decode cL_law 268 = .ok (.iconst 0, 1) := by decide +kernel
theorem dL_law_269 : decode cL_law 269 = .ok (.iload 9, 2) := by decide +kernel
theorem dL_law_271 : decode cL_law 271 = .ok (.iconst 1, 1) := by decide +kernel
theorem dL_law_272 : decode cL_law 272 = .ok (.ishr, 1) := by decide +kernel
theorem dL_law_273 : decode cL_law 273 = .ok (.iconst 3, 1) := by decide +kernel
theorem dL_law_274 : decode cL_law 274 = .ok (.iand, 1) := by decide +kernel
theorem dL_law_275 : decode cL_law 275 = .ok (.iconst 3, 1) := by decide +kernel
theorem dL_law_276 : decode cL_law 276 = .ok (.if_icmp .ne 8, 3) := by decide +kernel
theorem dL_law_279 : decode cL_law 279 = .ok (.bipush 8, 2) := by decide +kernel
theorem dL_law_281 : decode cL_law 281 = .ok (.goto 9, 3) := by decide +kernel
theorem dL_law_284 : decode cL_law 284 = .ok (.iload 9, 2) := by decide +kernel
theorem dL_law_286 : decode cL_law 286 = .ok (.iconst 1, 1) := by decide +kernel
theorem dL_law_287 : decode cL_law 287 = .ok (.ishr, 1) := by decide +kernel
theorem dL_law_288 : decode cL_law 288 = .ok (.iconst 3, 1) := by decide +kernel
theorem dL_law_289 : decode cL_law 289 = .ok (.irem, 1) := by decide +kernel
theorem dL_law_290 : decode cL_law 290 = .ok (.iload 9, 2) := by decide +kernel
theorem dL_law_292 : decode cL_law 292 = .ok (.iconst 3, 1) := by decide +kernel
theorem dL_law_293 : decode cL_law 293 = .ok (.ishr, 1) := by decide +kernel
theorem dL_law_294 : decode cL_law 294 = .ok (.iconst 3, 1) := by decide +kernel
theorem dL_law_295 : decode cL_law 295 = .ok (.iand, 1) := by decide +kernel
theorem dL_law_296 : decode cL_law 296 = .ok (.iconst 3, 1) := by decide +kernel
theorem dL_law_297 : decode cL_law 297 = .ok (.if_icmp .ne 8, 3) := by decide +kernel
theorem dL_law_300 : decode cL_law 300 = .ok (.bipush 8, 2) := by decide +kernel
theorem dL_law_302 : decode cL_law 302 = .ok (.goto 9, 3) := by decide +kernel
theorem dL_law_305 : decode cL_law 305 = .ok (.iload 9, 2) := by decide +kernel
theorem dL_law_307 : decode cL_law 307 = .ok (.iconst 3, 1) := by decide +kernel
theorem dL_law_308 : decode cL_law 308 = .ok (.ishr, 1) := by decide +kernel
theorem dL_law_309 : decode cL_law 309 = .ok (.iconst 3, 1) := by decide +kernel
theorem dL_law_310 : decode cL_law 310 = .ok (.irem, 1) := by decide +kernel
theorem dL_law_311 : decode cL_law 311 = .ok (.iload 9, 2) := by decide +kernel
theorem dL_law_313 : decode cL_law 313 = .ok (.iconst 5, 1) := by decide +kernel
theorem dL_law_314 : decode cL_law 314 = .ok (.ishr, 1) := by decide +kernel
theorem dL_law_315 : decode cL_law 315 = .ok (.bipush 9, 2) := by decide +kernel
theorem dL_law_317 : decode cL_law 317 = .ok (.irem, 1) := by decide +kernel
theorem dL_law_318 : decode cL_law 318 = .ok (.iconst 0, 1) := by decide +kernel
theorem dL_law_319 : decode cL_law 319 = .ok (.iconst 0, 1) := by decide +kernel
theorem dL_law_320 : decode cL_law 320 = .ok (.invokestatic 93, 3) := by decide +kernel
theorem dL_law_323 : decode cL_law 323 = .ok (.istore 13, 2) := by decide +kernel
theorem dL_law_325 : decode cL_law 325 = .ok (.goto 471, 3) := by decide +kernel
theorem dL_law_328 : decode cL_law 328 = .ok (.iload 10, 2) := by decide +kernel
theorem dL_law_330 : decode cL_law 330 = .ok (.iconst 2, 1) := by decide +kernel
theorem dL_law_331 : decode cL_law 331 = .ok (.if_icmp .ne 23, 3) := by decide +kernel
theorem dL_law_334 : decode cL_law 334 = .ok (.aload_n 1, 1) := by decide +kernel
theorem dL_law_335 : decode cL_law 335 = .ok (.iconst 1, 1) := by decide +kernel
theorem dL_law_336 : decode cL_law 336 = .ok (.iload 9, 2) := by decide +kernel
theorem dL_law_338 : decode cL_law 338 = .ok (.iconst 1, 1) := by decide +kernel
theorem dL_law_339 : decode cL_law 339 = .ok (.iand, 1) := by decide +kernel
theorem dL_law_340 : decode cL_law 340 = .ok (.iadd, 1) := by decide +kernel
theorem dL_law_341 : decode cL_law 341 = .ok (.iconst 0, 1) := by decide +kernel
theorem dL_law_342 : decode cL_law 342 = .ok (.iconst 0, 1) := by decide +kernel
theorem dL_law_343 : decode cL_law 343 = .ok (.iconst 0, 1) := by decide +kernel
theorem dL_law_344 : decode cL_law 344 = .ok (.iconst 0, 1) := by decide +kernel
theorem dL_law_345 : decode cL_law 345 = .ok (.iconst 0, 1) := by decide +kernel
theorem dL_law_346 : decode cL_law 346 = .ok (.invokestatic 93, 3) := by decide +kernel
theorem dL_law_349 : decode cL_law 349 = .ok (.istore 13, 2) := by decide +kernel
theorem dL_law_351 : decode cL_law 351 = .ok (.goto 445, 3) := by decide +kernel
theorem dL_law_354 : decode cL_law 354 = .ok (.iload 10, 2) := by decide +kernel
theorem dL_law_356 : decode cL_law 356 = .ok (.bipush 9, 2) := by decide +kernel
theorem dL_law_358 : decode cL_law 358 = .ok (.if_icmp .ge 43, 3) := by decide +kernel
theorem dL_law_361 : decode cL_law 361 = .ok (.iload 4, 2) := by decide +kernel
theorem dL_law_363 : decode cL_law 363 = .ok (.ifCond .le 38, 3) := by decide +kernel
theorem dL_law_366 : decode cL_law 366 = .ok (.aload_n 1, 1) := by decide +kernel
theorem dL_law_367 : decode cL_law 367 = .ok (.iload 10, 2) := by decide +kernel
theorem dL_law_369 : decode cL_law 369 = .ok (.iload 11, 2) := by decide +kernel
theorem dL_law_371 : decode cL_law 371 = .ok (.iload 10, 2) := by decide +kernel
theorem dL_law_373 : decode cL_law 373 = .ok (.bipush 8, 2) := by decide +kernel
theorem dL_law_375 : decode cL_law 375 = .ok (.if_icmp .ne 13, 3) := by decide +kernel
theorem dL_law_378 : decode cL_law 378 = .ok (.iload 9, 2) := by decide +kernel
theorem dL_law_380 : decode cL_law 380 = .ok (.bipush 10, 2) := by decide +kernel
theorem dL_law_382 : decode cL_law 382 = .ok (.ishr, 1) := by decide +kernel
theorem dL_law_383 : decode cL_law 383 = .ok (.iconst 1, 1) := by decide +kernel
theorem dL_law_384 : decode cL_law 384 = .ok (.iand, 1) := by decide +kernel
theorem dL_law_385 : decode cL_law 385 = .ok (.goto 5, 3) := by decide +kernel
theorem dL_law_388 : decode cL_law 388 = .ok (.iload 12, 2) := by decide +kernel
theorem dL_law_390 : decode cL_law 390 = .ok (.iconst 0, 1) := by decide +kernel
theorem dL_law_391 : decode cL_law 391 = .ok (.iconst 0, 1) := by decide +kernel
theorem dL_law_392 : decode cL_law 392 = .ok (.iconst 0, 1) := by decide +kernel
theorem dL_law_393 : decode cL_law 393 = .ok (.invokestatic 93, 3) := by decide +kernel
theorem dL_law_396 : decode cL_law 396 = .ok (.istore 13, 2) := by decide +kernel
theorem dL_law_398 : decode cL_law 398 = .ok (.goto 398, 3) := by decide +kernel
theorem dL_law_401 : decode cL_law 401 = .ok (.iload 10, 2) := by decide +kernel
theorem dL_law_403 : decode cL_law 403 = .ok (.bipush 11, 2) := by decide +kernel
theorem dL_law_405 : decode cL_law 405 = .ok (.if_icmp .ge 206, 3) := by decide +kernel
theorem dL_law_408 : decode cL_law 408 = .ok (.iload 4, 2) := by decide +kernel
theorem dL_law_410 : decode cL_law 410 = .ok (.ifCond .le 201, 3) := by decide +kernel
theorem dL_law_413 : decode cL_law 413 = .ok (.aload_n 1, 1) := by decide +kernel
theorem dL_law_414 : decode cL_law 414 = .ok (.iload 10, 2) := by decide +kernel
theorem dL_law_416 : decode cL_law 416 = .ok (.iload 11, 2) := by decide +kernel
theorem dL_law_418 : decode cL_law 418 = .ok (.iload 12, 2) := by decide +kernel
theorem dL_law_420 : decode cL_law 420 = .ok (.iload 9, 2) := by decide +kernel
theorem dL_law_422 : decode cL_law 422 = .ok (.bipush 10, 2) := by decide +kernel
theorem dL_law_424 : decode cL_law 424 = .ok (.ishr, 1) := by decide +kernel
theorem dL_law_425 : decode cL_law 425 = .ok (.iconst 1, 1) := by decide +kernel
theorem dL_law_426 : decode cL_law 426 = .ok (.iand, 1) := by decide +kernel
theorem dL_law_427 : decode cL_law 427 = .ok (.iconst 0, 1) := by decide +kernel
theorem dL_law_428 : decode cL_law 428 = .ok (.iconst 0, 1) := by decide +kernel
theorem dL_law_429 : decode cL_law 429 = .ok (.invokestatic 93, 3) := by decide +kernel
theorem dL_law_432 : decode cL_law 432 = .ok (.istore 13, 2) := by decide +kernel
theorem dL_law_434 : decode cL_law 434 = .ok (.iload 13, 2) := by decide +kernel
theorem dL_law_436 : decode cL_law 436 = .ok (.iload 4, 2) := by decide +kernel
theorem dL_law_438 : decode cL_law 438 = .ok (.if_icmp .lt 10, 3) := by decide +kernel
theorem dL_law_441 : decode cL_law 441 = .ok (.iload 13, 2) := by decide +kernel
theorem dL_law_443 : decode cL_law 443 = .ok (.iconst 1, 1) := by decide +kernel
theorem dL_law_444 : decode cL_law 444 = .ok (.iadd, 1) := by decide +kernel
theorem dL_law_445 : decode cL_law 445 = .ok (.goto 5, 3) := by decide +kernel
theorem dL_law_448 : decode cL_law 448 = .ok (.iload 4, 2) := by decide +kernel
theorem dL_law_450 : decode cL_law 450 = .ok (.istore 4, 2) := by decide +kernel
theorem dL_law_452 : decode cL_law 452 = .ok (.iload 5, 2) := by decide +kernel
theorem dL_law_454 : decode cL_law 454 = .ok (.ifCond .eq 342, 3) := by decide +kernel
theorem dL_law_457 : decode cL_law 457 = .ok (.iload 13, 2) := by decide +kernel
theorem dL_law_459 : decode cL_law 459 = .ok (.ifCond .lt 337, 3) := by decide +kernel
theorem dL_law_462 : decode cL_law 462 = .ok (.iload 10, 2) := by decide +kernel
theorem dL_law_464 : decode cL_law 464 = .ok (.bipush 9, 2) := by decide +kernel
theorem dL_law_466 : decode cL_law 466 = .ok (.if_icmp .ne 330, 3) := by decide +kernel
theorem dL_law_469 : decode cL_law 469 = .ok (.aload_n 1, 1) := by decide +kernel
theorem dL_law_470 : decode cL_law 470 = .ok (.bipush 12, 2) := by decide +kernel
theorem dL_law_472 : decode cL_law 472 = .ok (.iload 11, 2) := by decide +kernel
theorem dL_law_474 : decode cL_law 474 = .ok (.iload 13, 2) := by decide +kernel
theorem dL_law_476 : decode cL_law 476 = .ok (.iconst 0, 1) := by decide +kernel
theorem dL_law_477 : decode cL_law 477 = .ok (.iconst 0, 1) := by decide +kernel
theorem dL_law_478 : decode cL_law 478 = .ok (.iconst 0, 1) := by decide +kernel
theorem dL_law_479 : decode cL_law 479 = .ok (.invokestatic 93, 3) := by decide +kernel
theorem dL_law_482 : decode cL_law 482 = .ok (.iconst (-1), 1) := by decide +kernel
theorem dL_law_483 : decode cL_law 483 = .ok (.if_icmp .eq 21, 3) := by decide +kernel
theorem dL_law_486 : decode cL_law 486 = .ok (.aload_n 1, 1) := by decide +kernel
theorem dL_law_487 : decode cL_law 487 = .ok (.bipush 12, 2) := by decide +kernel
theorem dL_law_489 : decode cL_law 489 = .ok (.iload 11, 2) := by decide +kernel
theorem dL_law_491 : decode cL_law 491 = .ok (.iload 13, 2) := by decide +kernel
theorem dL_law_493 : decode cL_law 493 = .ok (.iconst 0, 1) := by decide +kernel
theorem dL_law_494 : decode cL_law 494 = .ok (.iconst 0, 1) := by decide +kernel
theorem dL_law_495 : decode cL_law 495 = .ok (.iconst 0, 1) := by decide +kernel
theorem dL_law_496 : decode cL_law 496 = .ok (.invokestatic 93, 3) := by decide +kernel
theorem dL_law_499 : decode cL_law 499 = .ok (.bipush (-13), 2) := by decide +kernel
theorem dL_law_501 : decode cL_law 501 = .ok (.if_icmp .ne 7, 3) := by decide +kernel
theorem dL_law_504 : decode cL_law 504 = .ok (.iconst 1, 1) := by decide +kernel
theorem dL_law_505 : decode cL_law 505 = .ok (.goto 4, 3) := by decide +kernel
theorem dL_law_508 : decode cL_law 508 = .ok (.iconst 0, 1) := by decide +kernel
theorem dL_law_509 : decode cL_law 509 = .ok (.istore 5, 2) := by decide +kernel
theorem dL_law_511 : decode cL_law 511 = .ok (.aload_n 1, 1) := by decide +kernel
theorem dL_law_512 : decode cL_law 512 = .ok (.bipush 9, 2) := by decide +kernel
theorem dL_law_514 : decode cL_law 514 = .ok (.iload 13, 2) := by decide +kernel
theorem dL_law_516 : decode cL_law 516 = .ok (.iconst 0, 1) := by decide +kernel
theorem dL_law_517 : decode cL_law 517 = .ok (.iconst 0, 1) := by decide +kernel
theorem dL_law_518 : decode cL_law 518 = .ok (.iconst 0, 1) := by decide +kernel
theorem dL_law_519 : decode cL_law 519 = .ok (.iconst 0, 1) := by decide +kernel
theorem dL_law_520 : decode cL_law 520 = .ok (.invokestatic 93, 3) := by decide +kernel
theorem dL_law_523 : decode cL_law 523 = .ok (.istore 14, 2) := by decide +kernel
theorem dL_law_525 : decode cL_law 525 = .ok (.iload 5, 2) := by decide +kernel
theorem dL_law_527 : decode cL_law 527 = .ok (.ifCond .eq 62, 3) := by decide +kernel
theorem dL_law_530 : decode cL_law 530 = .ok (.iload 14, 2) := by decide +kernel
theorem dL_law_532 : decode cL_law 532 = .ok (.bipush (-13), 2) := by decide +kernel
theorem dL_law_534 : decode cL_law 534 = .ok (.if_icmp .ne 10, 3) := by decide +kernel
theorem dL_law_537 : decode cL_law 537 = .ok (.iload 13, 2) := by decide +kernel
theorem dL_law_539 : decode cL_law 539 = .ok (.bipush 23, 2) := by decide +kernel
theorem dL_law_541 : decode cL_law 541 = .ok (.if_icmp .eq 44, 3) := by decide +kernel
theorem dL_law_544 : decode cL_law 544 = .ok (.iload 14, 2) := by decide +kernel
theorem dL_law_546 : decode cL_law 546 = .ok (.iload 13, 2) := by decide +kernel
theorem dL_law_548 : decode cL_law 548 = .ok (.iconst 1, 1) := by decide +kernel
theorem dL_law_549 : decode cL_law 549 = .ok (.iadd, 1) := by decide +kernel
theorem dL_law_550 : decode cL_law 550 = .ok (.if_icmp .ne 39, 3) := by decide +kernel
theorem dL_law_553 : decode cL_law 553 = .ok (.aload_n 1, 1) := by decide +kernel
theorem dL_law_554 : decode cL_law 554 = .ok (.iload 14, 2) := by decide +kernel
theorem dL_law_556 : decode cL_law 556 = .ok (.invokevirtual 70, 3) := by decide +kernel
theorem dL_law_559 : decode cL_law 559 = .ok (.aload_n 1, 1) := by decide +kernel
theorem dL_law_560 : decode cL_law 560 = .ok (.iload 13, 2) := by decide +kernel
theorem dL_law_562 : decode cL_law 562 = .ok (.invokevirtual 70, 3) := by decide +kernel
theorem dL_law_565 : decode cL_law 565 = .ok (.if_icmp .ne 24, 3) := by decide +kernel
theorem dL_law_568 : decode cL_law 568 = .ok (.aload_n 1, 1) := by decide +kernel
theorem dL_law_569 : decode cL_law 569 = .ok (.bipush 12, 2) := by decide +kernel
theorem dL_law_571 : decode cL_law 571 = .ok (.iload 14, 2) := by decide +kernel
theorem dL_law_573 : decode cL_law 573 = .ok (.iload 13, 2) := by decide +kernel
theorem dL_law_575 : decode cL_law 575 = .ok (.iconst 0, 1) := by decide +kernel
theorem dL_law_576 : decode cL_law 576 = .ok (.iconst 0, 1) := by decide +kernel
theorem dL_law_577 : decode cL_law 577 = .ok (.iconst 0, 1) := by decide +kernel
theorem dL_law_578 : decode cL_law 578 = .ok (.invokestatic 93, 3) := by decide +kernel
theorem dL_law_581 : decode cL_law 581 = .ok (.iconst (-1), 1) := by decide +kernel
theorem dL_law_582 : decode cL_law 582 = .ok (.if_icmp .ne 7, 3) := by decide +kernel
theorem dL_law_585 : decode cL_law 585 = .ok (.iconst 1, 1) := by decide +kernel
theorem dL_law_586 : decode cL_law 586 = .ok (.goto 4, 3) := by decide +kernel
theorem dL_law_589 : decode cL_law 589 = .ok (.iconst 0, 1) := by decide +kernel
theorem dL_law_590 : decode cL_law 590 = .ok (.istore 5, 2) := by decide +kernel
theorem dL_law_592 : decode cL_law 592 = .ok (.iload 14, 2) := by decide +kernel
theorem dL_law_594 : decode cL_law 594 = .ok (.ifCond .lt 10, 3) := by decide +kernel
theorem dL_law_597 : decode cL_law 597 = .ok (.iload 14, 2) := by decide +kernel
theorem dL_law_599 : decode cL_law 599 = .ok (.iconst 1, 1) := by decide +kernel
theorem dL_law_600 : decode cL_law 600 = .ok (.iadd, 1) := by decide +kernel
theorem dL_law_601 : decode cL_law 601 = .ok (.goto 5, 3) := by decide +kernel
theorem dL_law_604 : decode cL_law 604 = .ok (.iload 4, 2) := by decide +kernel
theorem dL_law_606 : decode cL_law 606 = .ok (.istore 4, 2) := by decide +kernel
theorem dL_law_608 : decode cL_law 608 = .ok (.goto 188, 3) := by decide +kernel
theorem dL_law_611 : decode cL_law 611 = .ok (.iload 10, 2) := by decide +kernel
