theorem dX8_closesHere_192 : decode cX8_closesHere 192 = .ok (.iload_n 3, 1) := by decide +kernel
theorem dX8_closesHere_193 : decode cX8_closesHere 193 = .ok (.ifCond .ne 8, 3) := by decide +kernel
theorem dX8_closesHere_196 : decode cX8_closesHere 196 = .ok (.iload 8, 2) := by decide +kernel
theorem dX8_closesHere_198 : decode cX8_closesHere 198 = .ok (.ifCond .eq 7, 3) := by decide +kernel
theorem dX8_closesHere_201 : decode cX8_closesHere 201 = .ok (.iconst 1, 1) := by decide +kernel
theorem dX8_closesHere_202 : decode cX8_closesHere 202 = .ok (.goto 4, 3) := by decide +kernel
theorem dX8_closesHere_205 : decode cX8_closesHere 205 = .ok (.iconst 0, 1) := by decide +kernel
theorem dX8_closesHere_206 : decode cX8_closesHere 206 = .ok (.istore_n 3, 1) := by decide +kernel
theorem dX8_closesHere_207 : decode cX8_closesHere 207 = .ok (.iinc 5 1, 3) := by decide +kernel
theorem dX8_closesHere_210 : decode cX8_closesHere 210 = .ok (.goto (-175), 3) := by decide +kernel
theorem dX8_closesHere_213 : decode cX8_closesHere 213 = .ok (.iinc 4 1, 3) := by decide +kernel
theorem dX8_closesHere_216 : decode cX8_closesHere 216 = .ok (.goto (-201), 3) := by decide +kernel
theorem dX8_closesHere_219 : decode cX8_closesHere 219 = .ok (.goto (-217), 3) := by decide +kernel
theorem dX8_closesHere_222 : decode cX8_closesHere 222 = .ok (.return_, 1) := by decide +kernel
set_option maxRecDepth 20000 in
theorem ggX8_goesHere_X8_outOf : GoodIn wsX8_goesHere wsX8_outOf := goodIn_r _ [14, 15, 16, 26, 27, 28, 29, 30, 31, 32, 33, 34, 35, 36, 37, 38, 39, 40, 41, 42, 43, 44, 45, 46, 47, 48, 49, 50, 51, 52, 53, 54, 55, 56, 57, 58, 59, 60, 61, 62, 63, 64, 65, 66, 67, 68, 69, 70, 71, 72] rfl (by decide +kernel)
set_option maxRecDepth 20000 in
theorem gX8_goesHere_X8_outOf : GoodIn wsX8_goesHere (wsV RX8 289 RX8 yX8_outOf wsX8_outOf) := goodIn_app (goodIn_of _ (by decide +kernel)) ggX8_goesHere_X8_outOf
set_option maxRecDepth 20000 in
theorem ggX8_goesHere_X8_behind : GoodIn wsX8_goesHere wsX8_behind := goodIn_r _ [20, 4, 21, 22, 23, 24, 13, 25, 16, 15, 26, 27, 28, 29, 30, 31, 32, 33, 34, 35, 36, 37, 38, 39, 40, 41, 42, 43, 44, 45, 46, 47, 48, 49, 50, 51, 52, 53, 54, 55, 56, 57, 58, 59, 60, 61, 62, 63, 64, 65, 66, 67, 68, 69, 70, 71, 72] rfl (by decide +kernel)
set_option maxRecDepth 20000 in
theorem gX8_goesHere_X8_behind : GoodIn wsX8_goesHere (wsV RX8 285 RX8 yX8_behind wsX8_behind) := goodIn_app (goodIn_of _ (by decide +kernel)) ggX8_goesHere_X8_behind
theorem dX8_goesHere_0 : decode cX8_goesHere 0 = .ok (.iconst 0, 1) := by decide +kernel
theorem dX8_goesHere_1 : decode cX8_goesHere 1 = .ok (.istore 4, 2) := by decide +kernel
theorem dX8_goesHere_3 : decode cX8_goesHere 3 = .ok (.iload 4, 2) := by decide +kernel
theorem dX8_goesHere_5 : decode cX8_goesHere 5 = .ok (.sipush 288, 3) := by decide +kernel
theorem dX8_goesHere_8 : decode cX8_goesHere 8 = .ok (.if_icmp .ge 19, 3) := by decide +kernel
theorem dX8_goesHere_11 : decode cX8_goesHere 11 = .ok (.aload_n 0, 1) := by decide +kernel
theorem dX8_goesHere_12 : decode cX8_goesHere 12 = .ok (.getfield 102, 3) := by decide +kernel
theorem dX8_goesHere_15 : decode cX8_goesHere 15 = .ok (.iload 4, 2) := by decide +kernel
theorem dX8_goesHere_17 : decode cX8_goesHere 17 = .ok (.ldc_w 284, 3) := by decide +kernel
theorem dX8_goesHere_20 : decode cX8_goesHere 20 = .ok (.iastore, 1) := by decide +kernel
theorem dX8_goesHere_21 : decode cX8_goesHere 21 = .ok (.iinc 4 1, 3) := by decide +kernel
theorem dX8_goesHere_24 : decode cX8_goesHere 24 = .ok (.goto (-21), 3) := by decide +kernel
theorem dX8_goesHere_27 : decode cX8_goesHere 27 = .ok (.ldc_w 284, 3) := by decide +kernel
theorem dX8_goesHere_30 : decode cX8_goesHere 30 = .ok (.istore 4, 2) := by decide +kernel
theorem dX8_goesHere_32 : decode cX8_goesHere 32 = .ok (.sipush 160, 3) := by decide +kernel
theorem dX8_goesHere_35 : decode cX8_goesHere 35 = .ok (.iload_n 1, 1) := by decide +kernel
theorem dX8_goesHere_36 : decode cX8_goesHere 36 = .ok (.imul, 1) := by decide +kernel
theorem dX8_goesHere_37 : decode cX8_goesHere 37 = .ok (.istore 5, 2) := by decide +kernel
theorem dX8_goesHere_39 : decode cX8_goesHere 39 = .ok (.iload 5, 2) := by decide +kernel
theorem dX8_goesHere_41 : decode cX8_goesHere 41 = .ok (.sipush 160, 3) := by decide +kernel
theorem dX8_goesHere_44 : decode cX8_goesHere 44 = .ok (.iload_n 1, 1) := by decide +kernel
theorem dX8_goesHere_45 : decode cX8_goesHere 45 = .ok (.imul, 1) := by decide +kernel
theorem dX8_goesHere_46 : decode cX8_goesHere 46 = .ok (.aload_n 0, 1) := by decide +kernel
theorem dX8_goesHere_47 : decode cX8_goesHere 47 = .ok (.getfield 19, 3) := by decide +kernel
theorem dX8_goesHere_50 : decode cX8_goesHere 50 = .ok (.iload_n 1, 1) := by decide +kernel
theorem dX8_goesHere_51 : decode cX8_goesHere 51 = .ok (.iaload, 1) := by decide +kernel
theorem dX8_goesHere_52 : decode cX8_goesHere 52 = .ok (.iadd, 1) := by decide +kernel
theorem dX8_goesHere_53 : decode cX8_goesHere 53 = .ok (.if_icmp .ge 209, 3) := by decide +kernel
theorem dX8_goesHere_56 : decode cX8_goesHere 56 = .ok (.iconst 0, 1) := by decide +kernel
theorem dX8_goesHere_57 : decode cX8_goesHere 57 = .ok (.istore 6, 2) := by decide +kernel
theorem dX8_goesHere_59 : decode cX8_goesHere 59 = .ok (.iload 6, 2) := by decide +kernel
theorem dX8_goesHere_61 : decode cX8_goesHere 61 = .ok (.aload_n 0, 1) := by decide +kernel
theorem dX8_goesHere_62 : decode cX8_goesHere 62 = .ok (.getfield 135, 3) := by decide +kernel
theorem dX8_goesHere_65 : decode cX8_goesHere 65 = .ok (.if_icmp .gt 191, 3) := by decide +kernel
theorem dX8_goesHere_68 : decode cX8_goesHere 68 = .ok (.aload_n 0, 1) := by decide +kernel
theorem dX8_goesHere_69 : decode cX8_goesHere 69 = .ok (.iload 5, 2) := by decide +kernel
theorem dX8_goesHere_71 : decode cX8_goesHere 71 = .ok (.iload_n 2, 1) := by decide +kernel
theorem dX8_goesHere_72 : decode cX8_goesHere 72 = .ok (.invokevirtual 289, 3) := by decide +kernel
theorem dX8_goesHere_75 : decode cX8_goesHere 75 = .ok (.iload_n 3, 1) := by decide +kernel
theorem dX8_goesHere_76 : decode cX8_goesHere 76 = .ok (.if_icmp .ne 180, 3) := by decide +kernel
theorem dX8_goesHere_79 : decode cX8_goesHere 79 = .ok (.aload_n 0, 1) := by decide +kernel
theorem dX8_goesHere_80 : decode cX8_goesHere 80 = .ok (.iload 5, 2) := by decide +kernel
theorem dX8_goesHere_82 : decode cX8_goesHere 82 = .ok (.iload 6, 2) := by decide +kernel
theorem dX8_goesHere_84 : decode cX8_goesHere 84 = .ok (.iload_n 2, 1) := by decide +kernel
theorem dX8_goesHere_85 : decode cX8_goesHere 85 = .ok (.invokevirtual 285, 3) := by decide +kernel
theorem dX8_goesHere_88 : decode cX8_goesHere 88 = .ok (.istore 7, 2) := by decide +kernel
theorem dX8_goesHere_90 : decode cX8_goesHere 90 = .ok (.iload 7, 2) := by decide +kernel
theorem dX8_goesHere_92 : decode cX8_goesHere 92 = .ok (.iconst (-1), 1) := by decide +kernel
theorem dX8_goesHere_93 : decode cX8_goesHere 93 = .ok (.if_icmp .eq 157, 3) := by decide +kernel
theorem dX8_goesHere_96 : decode cX8_goesHere 96 = .ok (.aload_n 0, 1) := by decide +kernel
theorem dX8_goesHere_97 : decode cX8_goesHere 97 = .ok (.getfield 99, 3) := by decide +kernel
theorem dX8_goesHere_100 : decode cX8_goesHere 100 = .ok (.bipush 32, 2) := by decide +kernel
theorem dX8_goesHere_102 : decode cX8_goesHere 102 = .ok (.iload 6, 2) := by decide +kernel
theorem dX8_goesHere_104 : decode cX8_goesHere 104 = .ok (.imul, 1) := by decide +kernel
theorem dX8_goesHere_105 : decode cX8_goesHere 105 = .ok (.aload_n 0, 1) := by decide +kernel
theorem dX8_goesHere_106 : decode cX8_goesHere 106 = .ok (.getfield 22, 3) := by decide +kernel
theorem dX8_goesHere_109 : decode cX8_goesHere 109 = .ok (.iload 5, 2) := by decide +kernel
theorem dX8_goesHere_111 : decode cX8_goesHere 111 = .ok (.iaload, 1) := by decide +kernel
theorem dX8_goesHere_112 : decode cX8_goesHere 112 = .ok (.iadd, 1) := by decide +kernel
theorem dX8_goesHere_113 : decode cX8_goesHere 113 = .ok (.iaload, 1) := by decide +kernel
theorem dX8_goesHere_114 : decode cX8_goesHere 114 = .ok (.ldc_w 284, 3) := by decide +kernel
theorem dX8_goesHere_117 : decode cX8_goesHere 117 = .ok (.if_icmp .eq 133, 3) := by decide +kernel
theorem dX8_goesHere_120 : decode cX8_goesHere 120 = .ok (.aload_n 0, 1) := by decide +kernel
theorem dX8_goesHere_121 : decode cX8_goesHere 121 = .ok (.getfield 96, 3) := by decide +kernel
theorem dX8_goesHere_124 : decode cX8_goesHere 124 = .ok (.bipush 32, 2) := by decide +kernel
theorem dX8_goesHere_126 : decode cX8_goesHere 126 = .ok (.iload 7, 2) := by decide +kernel
theorem dX8_goesHere_128 : decode cX8_goesHere 128 = .ok (.imul, 1) := by decide +kernel
theorem dX8_goesHere_129 : decode cX8_goesHere 129 = .ok (.aload_n 0, 1) := by decide +kernel
theorem dX8_goesHere_130 : decode cX8_goesHere 130 = .ok (.getfield 34, 3) := by decide +kernel
theorem dX8_goesHere_133 : decode cX8_goesHere 133 = .ok (.iload 5, 2) := by decide +kernel
theorem dX8_goesHere_135 : decode cX8_goesHere 135 = .ok (.iaload, 1) := by decide +kernel
theorem dX8_goesHere_136 : decode cX8_goesHere 136 = .ok (.iadd, 1) := by decide +kernel
theorem dX8_goesHere_137 : decode cX8_goesHere 137 = .ok (.iaload, 1) := by decide +kernel
theorem dX8_goesHere_138 : decode cX8_goesHere 138 = .ok (.ldc_w 284, 3) := by decide +kernel
theorem dX8_goesHere_141 : decode cX8_goesHere 141 = .ok (.if_icmp .eq 109, 3) := by decide +kernel
theorem dX8_goesHere_144 : decode cX8_goesHere 144 = .ok (.aload_n 0, 1) := by decide +kernel
theorem dX8_goesHere_145 : decode cX8_goesHere 145 = .ok (.getfield 99, 3) := by decide +kernel
theorem dX8_goesHere_148 : decode cX8_goesHere 148 = .ok (.bipush 32, 2) := by decide +kernel
theorem dX8_goesHere_150 : decode cX8_goesHere 150 = .ok (.iload 6, 2) := by decide +kernel
theorem dX8_goesHere_152 : decode cX8_goesHere 152 = .ok (.imul, 1) := by decide +kernel
theorem dX8_goesHere_153 : decode cX8_goesHere 153 = .ok (.aload_n 0, 1) := by decide +kernel
theorem dX8_goesHere_154 : decode cX8_goesHere 154 = .ok (.getfield 22, 3) := by decide +kernel
theorem dX8_goesHere_157 : decode cX8_goesHere 157 = .ok (.iload 5, 2) := by decide +kernel
theorem dX8_goesHere_159 : decode cX8_goesHere 159 = .ok (.iaload, 1) := by decide +kernel
theorem dX8_goesHere_160 : decode cX8_goesHere 160 = .ok (.iadd, 1) := by decide +kernel
theorem dX8_goesHere_161 : decode cX8_goesHere 161 = .ok (.iaload, 1) := by decide +kernel
theorem dX8_goesHere_162 : decode cX8_goesHere 162 = .ok (.aload_n 0, 1) := by decide +kernel
theorem dX8_goesHere_163 : decode cX8_goesHere 163 = .ok (.getfield 31, 3) := by decide +kernel
theorem dX8_goesHere_166 : decode cX8_goesHere 166 = .ok (.iload 5, 2) := by decide +kernel
theorem dX8_goesHere_168 : decode cX8_goesHere 168 = .ok (.iaload, 1) := by decide +kernel
theorem dX8_goesHere_169 : decode cX8_goesHere 169 = .ok (.iadd, 1) := by decide +kernel
theorem dX8_goesHere_170 : decode cX8_goesHere 170 = .ok (.istore 8, 2) := by decide +kernel
theorem dX8_goesHere_172 : decode cX8_goesHere 172 = .ok (.bipush 32, 2) := by decide +kernel
theorem dX8_goesHere_174 : decode cX8_goesHere 174 = .ok (.iload 7, 2) := by decide +kernel
theorem dX8_goesHere_176 : decode cX8_goesHere 176 = .ok (.imul, 1) := by decide +kernel
theorem dX8_goesHere_177 : decode cX8_goesHere 177 = .ok (.aload_n 0, 1) := by decide +kernel
theorem dX8_goesHere_178 : decode cX8_goesHere 178 = .ok (.getfield 34, 3) := by decide +kernel
theorem dX8_goesHere_181 : decode cX8_goesHere 181 = .ok (.iload 5, 2) := by decide +kernel
theorem dX8_goesHere_183 : decode cX8_goesHere 183 = .ok (.iaload, 1) := by decide +kernel
theorem dX8_goesHere_184 : decode cX8_goesHere 184 = .ok (.iadd, 1) := by decide +kernel
theorem dX8_goesHere_185 : decode cX8_goesHere 185 = .ok (.istore 9, 2) := by decide +kernel
theorem dX8_goesHere_187 : decode cX8_goesHere 187 = .ok (.aload_n 0, 1) := by decide +kernel
theorem dX8_goesHere_188 : decode cX8_goesHere 188 = .ok (.getfield 102, 3) := by decide +kernel
theorem dX8_goesHere_191 : decode cX8_goesHere 191 = .ok (.iload 9, 2) := by decide +kernel
theorem dX8_goesHere_193 : decode cX8_goesHere 193 = .ok (.iload 8, 2) := by decide +kernel
theorem dX8_goesHere_195 : decode cX8_goesHere 195 = .ok (.aload_n 0, 1) := by decide +kernel
theorem dX8_goesHere_196 : decode cX8_goesHere 196 = .ok (.getfield 102, 3) := by decide +kernel
theorem dX8_goesHere_199 : decode cX8_goesHere 199 = .ok (.iload 9, 2) := by decide +kernel
theorem dX8_goesHere_201 : decode cX8_goesHere 201 = .ok (.iaload, 1) := by decide +kernel
theorem dX8_goesHere_202 : decode cX8_goesHere 202 = .ok (.if_icmp .ge 8, 3) := by decide +kernel
theorem dX8_goesHere_205 : decode cX8_goesHere 205 = .ok (.iload 8, 2) := by decide +kernel
theorem dX8_goesHere_207 : decode cX8_goesHere 207 = .ok (.goto 10, 3) := by decide +kernel
theorem dX8_goesHere_210 : decode cX8_goesHere 210 = .ok (.aload_n 0, 1) := by decide +kernel
theorem dX8_goesHere_211 : decode cX8_goesHere 211 = .ok (.getfield 102, 3) := by decide +kernel
theorem dX8_goesHere_214 : decode cX8_goesHere 214 = .ok (.iload 9, 2) := by decide +kernel
theorem dX8_goesHere_216 : decode cX8_goesHere 216 = .ok (.iaload, 1) := by decide +kernel
theorem dX8_goesHere_217 : decode cX8_goesHere 217 = .ok (.iastore, 1) := by decide +kernel
theorem dX8_goesHere_218 : decode cX8_goesHere 218 = .ok (.iload 8, 2) := by decide +kernel
theorem dX8_goesHere_220 : decode cX8_goesHere 220 = .ok (.aload_n 0, 1) := by decide +kernel
theorem dX8_goesHere_221 : decode cX8_goesHere 221 = .ok (.getfield 96, 3) := by decide +kernel
theorem dX8_goesHere_224 : decode cX8_goesHere 224 = .ok (.iload 9, 2) := by decide +kernel
theorem dX8_goesHere_226 : decode cX8_goesHere 226 = .ok (.iaload, 1) := by decide +kernel
theorem dX8_goesHere_227 : decode cX8_goesHere 227 = .ok (.iadd, 1) := by decide +kernel
theorem dX8_goesHere_228 : decode cX8_goesHere 228 = .ok (.iload 4, 2) := by decide +kernel
theorem dX8_goesHere_230 : decode cX8_goesHere 230 = .ok (.if_icmp .ge 16, 3) := by decide +kernel
theorem dX8_goesHere_233 : decode cX8_goesHere 233 = .ok (.iload 8, 2) := by decide +kernel
theorem dX8_goesHere_235 : decode cX8_goesHere 235 = .ok (.aload_n 0, 1) := by decide +kernel
theorem dX8_goesHere_236 : decode cX8_goesHere 236 = .ok (.getfield 96, 3) := by decide +kernel
theorem dX8_goesHere_239 : decode cX8_goesHere 239 = .ok (.iload 9, 2) := by decide +kernel
theorem dX8_goesHere_241 : decode cX8_goesHere 241 = .ok (.iaload, 1) := by decide +kernel
theorem dX8_goesHere_242 : decode cX8_goesHere 242 = .ok (.iadd, 1) := by decide +kernel
theorem dX8_goesHere_243 : decode cX8_goesHere 243 = .ok (.goto 5, 3) := by decide +kernel
theorem dX8_goesHere_246 : decode cX8_goesHere 246 = .ok (.iload 4, 2) := by decide +kernel
theorem dX8_goesHere_248 : decode cX8_goesHere 248 = .ok (.istore 4, 2) := by decide +kernel
theorem dX8_goesHere_250 : decode cX8_goesHere 250 = .ok (.iinc 6 1, 3) := by decide +kernel
theorem dX8_goesHere_253 : decode cX8_goesHere 253 = .ok (.goto (-194), 3) := by decide +kernel
theorem dX8_goesHere_256 : decode cX8_goesHere 256 = .ok (.iinc 5 1, 3) := by decide +kernel
theorem dX8_goesHere_259 : decode cX8_goesHere 259 = .ok (.goto (-220), 3) := by decide +kernel
theorem dX8_goesHere_262 : decode cX8_goesHere 262 = .ok (.iload 4, 2) := by decide +kernel
theorem dX8_goesHere_264 : decode cX8_goesHere 264 = .ok (.ireturn, 1) := by decide +kernel
theorem dX8_begins__0 : decode cX8_begins_ 0 = .ok (.iconst 0, 1) := by decide +kernel
theorem dX8_begins__1 : decode cX8_begins_ 1 = .ok (.istore_n 2, 1) := by decide +kernel
theorem dX8_begins__2 : decode cX8_begins_ 2 = .ok (.iload_n 2, 1) := by decide +kernel
theorem dX8_begins__3 : decode cX8_begins_ 3 = .ok (.sipush 288, 3) := by decide +kernel
theorem dX8_begins__6 : decode cX8_begins_ 6 = .ok (.if_icmp .ge 43, 3) := by decide +kernel
theorem dX8_begins__9 : decode cX8_begins_ 9 = .ok (.aload_n 0, 1) := by decide +kernel
theorem dX8_begins__10 : decode cX8_begins_ 10 = .ok (.getfield 99, 3) := by decide +kernel
theorem dX8_begins__13 : decode cX8_begins_ 13 = .ok (.iload_n 2, 1) := by decide +kernel
theorem dX8_begins__14 : decode cX8_begins_ 14 = .ok (.iload_n 1, 1) := by decide +kernel
theorem dX8_begins__15 : decode cX8_begins_ 15 = .ok (.ifCond .eq 11, 3) := by decide +kernel
theorem dX8_begins__18 : decode cX8_begins_ 18 = .ok (.iload_n 2, 1) := by decide +kernel
theorem dX8_begins__19 : decode cX8_begins_ 19 = .ok (.ifCond .ne 7, 3) := by decide +kernel
theorem dX8_begins__22 : decode cX8_begins_ 22 = .ok (.iconst 0, 1) := by decide +kernel
theorem dX8_begins__23 : decode cX8_begins_ 23 = .ok (.goto 19, 3) := by decide +kernel
theorem dX8_begins__26 : decode cX8_begins_ 26 = .ok (.iload_n 1, 1) := by decide +kernel
theorem dX8_begins__27 : decode cX8_begins_ 27 = .ok (.ifCond .eq 9, 3) := by decide +kernel
theorem dX8_begins__30 : decode cX8_begins_ 30 = .ok (.ldc_w 284, 3) := by decide +kernel
theorem dX8_begins__33 : decode cX8_begins_ 33 = .ok (.goto 9, 3) := by decide +kernel
theorem dX8_begins__36 : decode cX8_begins_ 36 = .ok (.aload_n 0, 1) := by decide +kernel
theorem dX8_begins__37 : decode cX8_begins_ 37 = .ok (.getfield 102, 3) := by decide +kernel
theorem dX8_begins__40 : decode cX8_begins_ 40 = .ok (.iload_n 2, 1) := by decide +kernel
theorem dX8_begins__41 : decode cX8_begins_ 41 = .ok (.iaload, 1) := by decide +kernel
theorem dX8_begins__42 : decode cX8_begins_ 42 = .ok (.iastore, 1) := by decide +kernel
theorem dX8_begins__43 : decode cX8_begins_ 43 = .ok (.iinc 2 1, 3) := by decide +kernel
theorem dX8_begins__46 : decode cX8_begins_ 46 = .ok (.goto (-44), 3) := by decide +kernel
theorem dX8_begins__49 : decode cX8_begins_ 49 = .ok (.return_, 1) := by decide +kernel
set_option maxRecDepth 20000 in
theorem ggX8_isDoneFor_X8_isEndOf : GoodIn wsX8_isDoneFor wsX8_isEndOf := goodIn_r _ [8, 9, 10, 11, 12, 13, 14, 15, 16, 17, 18, 19, 20, 21, 22, 23, 24, 25, 26, 27, 28, 29, 30, 31, 32, 33, 34, 35, 36, 37, 38, 39, 40, 41, 42, 43, 44, 45, 46, 47, 48, 49, 50, 51, 52, 53, 54, 55, 56] rfl (by decide +kernel)
set_option maxRecDepth 20000 in
theorem gX8_isDoneFor_X8_isEndOf : GoodIn wsX8_isDoneFor (wsV RX8 201 RX8 yX8_isEndOf wsX8_isEndOf) := goodIn_app (goodIn_of _ (by decide +kernel)) ggX8_isDoneFor_X8_isEndOf
theorem dX8_isDoneFor_0 : decode cX8_isDoneFor 0 = .ok (.iconst 0, 1) := by decide +kernel
theorem dX8_isDoneFor_1 : decode cX8_isDoneFor 1 = .ok (.istore_n 3, 1) := by decide +kernel
theorem dX8_isDoneFor_2 : decode cX8_isDoneFor 2 = .ok (.iconst 0, 1) := by decide +kernel
theorem dX8_isDoneFor_3 : decode cX8_isDoneFor 3 = .ok (.istore 4, 2) := by decide +kernel
theorem dX8_isDoneFor_5 : decode cX8_isDoneFor 5 = .ok (.iload 4, 2) := by decide +kernel
theorem dX8_isDoneFor_7 : decode cX8_isDoneFor 7 = .ok (.aload_n 0, 1) := by decide +kernel
theorem dX8_isDoneFor_8 : decode cX8_isDoneFor 8 = .ok (.getfield 13, 3) := by decide +kernel
theorem dX8_isDoneFor_11 : decode cX8_isDoneFor 11 = .ok (.iload_n 1, 1) := by decide +kernel
theorem dX8_isDoneFor_12 : decode cX8_isDoneFor 12 = .ok (.iaload, 1) := by decide +kernel
theorem dX8_isDoneFor_13 : decode cX8_isDoneFor 13 = .ok (.if_icmp .ge 48, 3) := by decide +kernel
theorem dX8_isDoneFor_16 : decode cX8_isDoneFor 16 = .ok (.iload_n 3, 1) := by decide +kernel
theorem dX8_isDoneFor_17 : decode cX8_isDoneFor 17 = .ok (.ifCond .ne 32, 3) := by decide +kernel
theorem dX8_isDoneFor_20 : decode cX8_isDoneFor 20 = .ok (.aload_n 0, 1) := by decide +kernel
theorem dX8_isDoneFor_21 : decode cX8_isDoneFor 21 = .ok (.iload_n 1, 1) := by decide +kernel
theorem dX8_isDoneFor_22 : decode cX8_isDoneFor 22 = .ok (.iload 4, 2) := by decide +kernel
theorem dX8_isDoneFor_24 : decode cX8_isDoneFor 24 = .ok (.invokevirtual 201, 3) := by decide +kernel
theorem dX8_isDoneFor_27 : decode cX8_isDoneFor 27 = .ok (.ifCond .eq 26, 3) := by decide +kernel
theorem dX8_isDoneFor_30 : decode cX8_isDoneFor 30 = .ok (.aload_n 0, 1) := by decide +kernel
theorem dX8_isDoneFor_31 : decode cX8_isDoneFor 31 = .ok (.getfield 99, 3) := by decide +kernel
theorem dX8_isDoneFor_34 : decode cX8_isDoneFor 34 = .ok (.bipush 32, 2) := by decide +kernel
theorem dX8_isDoneFor_36 : decode cX8_isDoneFor 36 = .ok (.aload_n 0, 1) := by decide +kernel
theorem dX8_isDoneFor_37 : decode cX8_isDoneFor 37 = .ok (.getfield 135, 3) := by decide +kernel
theorem dX8_isDoneFor_40 : decode cX8_isDoneFor 40 = .ok (.imul, 1) := by decide +kernel
theorem dX8_isDoneFor_41 : decode cX8_isDoneFor 41 = .ok (.iload 4, 2) := by decide +kernel
theorem dX8_isDoneFor_43 : decode cX8_isDoneFor 43 = .ok (.iadd, 1) := by decide +kernel
theorem dX8_isDoneFor_44 : decode cX8_isDoneFor 44 = .ok (.iaload, 1) := by decide +kernel
theorem dX8_isDoneFor_45 : decode cX8_isDoneFor 45 = .ok (.iload_n 2, 1) := by decide +kernel
theorem dX8_isDoneFor_46 : decode cX8_isDoneFor 46 = .ok (.if_icmp .ne 7, 3) := by decide +kernel
theorem dX8_isDoneFor_49 : decode cX8_isDoneFor 49 = .ok (.iconst 1, 1) := by decide +kernel
theorem dX8_isDoneFor_50 : decode cX8_isDoneFor 50 = .ok (.goto 4, 3) := by decide +kernel
theorem dX8_isDoneFor_53 : decode cX8_isDoneFor 53 = .ok (.iconst 0, 1) := by decide +kernel
theorem dX8_isDoneFor_54 : decode cX8_isDoneFor 54 = .ok (.istore_n 3, 1) := by decide +kernel
theorem dX8_isDoneFor_55 : decode cX8_isDoneFor 55 = .ok (.iinc 4 1, 3) := by decide +kernel
theorem dX8_isDoneFor_58 : decode cX8_isDoneFor 58 = .ok (.goto (-53), 3) := by decide +kernel
theorem dX8_isDoneFor_61 : decode cX8_isDoneFor 61 = .ok (.iload_n 3, 1) := by decide +kernel
theorem dX8_isDoneFor_62 : decode cX8_isDoneFor 62 = .ok (.ireturn, 1) := by decide +kernel
set_option maxRecDepth 20000 in
theorem ggX8_tellsBest_X8_begins_ : GoodIn wsX8_tellsBest wsX8_begins_ := goodIn_r _ [8, 9, 10, 11, 50, 51, 52, 53, 54, 55, 56, 57, 58, 59, 60, 61, 62, 63, 64, 65, 66, 67, 68, 69, 70, 71, 72, 73, 74, 75, 76, 77, 78, 79, 80, 81, 82, 83, 84, 85, 86, 87, 88, 89, 90, 91, 92, 93, 94, 95, 96] rfl (by decide +kernel)
set_option maxRecDepth 20000 in
theorem gX8_tellsBest_X8_begins_ : GoodIn wsX8_tellsBest (wsV RX8 324 RX8 yX8_begins_ wsX8_begins_) := goodIn_app (goodIn_of _ (by decide +kernel)) ggX8_tellsBest_X8_begins_
set_option maxRecDepth 20000 in
theorem ggX8_tellsBest_X8_closesHere : GoodIn wsX8_tellsBest wsX8_closesHere := goodIn_r _ [15, 16, 17, 9, 18, 10, 19, 20, 21, 22, 23, 7, 24, 25, 26, 27, 28, 29, 30, 31, 32, 33, 34, 35, 50, 51, 52, 53, 54, 55, 56, 57, 58, 59, 60, 61, 62, 63, 64, 65, 66, 67, 68, 69, 70, 71, 72, 73, 74, 75, 76, 77, 78, 79, 80, 81, 82, 83, 84, 85, 86, 87, 88, 89, 90, 91, 92, 93, 94, 95, 96] rfl (by decide +kernel)
set_option maxRecDepth 20000 in
theorem gX8_tellsBest_X8_closesHere : GoodIn wsX8_tellsBest (wsV RX8 327 RX8 yX8_closesHere wsX8_closesHere) := goodIn_app (goodIn_of _ (by decide +kernel)) ggX8_tellsBest_X8_closesHere
set_option maxRecDepth 20000 in
theorem ggX8_tellsBest_X8_isDoneFor : GoodIn wsX8_tellsBest wsX8_isDoneFor := goodIn_r _ [39, 40, 9, 17, 41, 42, 43, 7, 44, 45, 50, 51, 52, 53, 54, 55, 56, 57, 58, 59, 60, 61, 62, 63, 64, 65, 66, 67, 68, 69, 70, 71, 72, 73, 74, 75, 76, 77, 78, 79, 80, 81, 82, 83, 84, 85, 86, 87, 88, 89, 90, 91, 92, 93, 94, 95, 96] rfl (by decide +kernel)
set_option maxRecDepth 20000 in
theorem gX8_tellsBest_X8_isDoneFor : GoodIn wsX8_tellsBest (wsV RX8 330 RX8 yX8_isDoneFor wsX8_isDoneFor) := goodIn_app (goodIn_of _ (by decide +kernel)) ggX8_tellsBest_X8_isDoneFor
set_option maxRecDepth 20000 in
theorem ggX8_tellsBest_X8_goesHere : GoodIn wsX8_tellsBest wsX8_goesHere := goodIn_r _ [49, 11, 10, 16, 17, 9, 18, 1, 20, 19, 21, 22, 23, 7, 24, 25, 26, 27, 28, 29, 30, 31, 32, 33, 34, 35, 50, 51, 52, 53, 54, 55, 56, 57, 58, 59, 60, 61, 62, 63, 64, 65, 66, 67, 68, 69, 70, 71, 72, 73, 74, 75, 76, 77, 78, 79, 80, 81, 82, 83, 84, 85, 86, 87, 88, 89, 90, 91, 92, 93, 94, 95, 96] rfl (by decide +kernel)
set_option maxRecDepth 20000 in
theorem gX8_tellsBest_X8_goesHere : GoodIn wsX8_tellsBest (wsV RX8 333 RX8 yX8_goesHere wsX8_goesHere) := goodIn_app (goodIn_of _ (by decide +kernel)) ggX8_tellsBest_X8_goesHere
theorem dX8_tellsBest_0 : decode cX8_tellsBest 0 = .ok (.aload_n 0, 1) := by decide +kernel
theorem dX8_tellsBest_1 : decode cX8_tellsBest 1 = .ok (.getfield 96, 3) := by decide +kernel
theorem dX8_tellsBest_4 : decode cX8_tellsBest 4 = .ok (.iconst 0, 1) := by decide +kernel
theorem dX8_tellsBest_5 : decode cX8_tellsBest 5 = .ok (.iaload, 1) := by decide +kernel
theorem dX8_tellsBest_6 : decode cX8_tellsBest 6 = .ok (.istore_n 3, 1) := by decide +kernel
theorem dX8_tellsBest_7 : decode cX8_tellsBest 7 = .ok (.aload_n 0, 1) := by decide +kernel
theorem dX8_tellsBest_8 : decode cX8_tellsBest 8 = .ok (.iconst 1, 1) := by decide +kernel
theorem dX8_tellsBest_9 : decode cX8_tellsBest 9 = .ok (.invokevirtual 324, 3) := by decide +kernel
theorem dX8_tellsBest_12 : decode cX8_tellsBest 12 = .ok (.aload_n 0, 1) := by decide +kernel
theorem dX8_tellsBest_13 : decode cX8_tellsBest 13 = .ok (.iload_n 1, 1) := by decide +kernel
theorem dX8_tellsBest_14 : decode cX8_tellsBest 14 = .ok (.iload_n 2, 1) := by decide +kernel
theorem dX8_tellsBest_15 : decode cX8_tellsBest 15 = .ok (.invokevirtual 327, 3) := by decide +kernel
theorem dX8_tellsBest_18 : decode cX8_tellsBest 18 = .ok (.aload_n 0, 1) := by decide +kernel
theorem dX8_tellsBest_19 : decode cX8_tellsBest 19 = .ok (.iconst 0, 1) := by decide +kernel
theorem dX8_tellsBest_20 : decode cX8_tellsBest 20 = .ok (.putfield 314, 3) := by decide +kernel
theorem dX8_tellsBest_23 : decode cX8_tellsBest 23 = .ok (.aload_n 0, 1) := by decide +kernel
theorem dX8_tellsBest_24 : decode cX8_tellsBest 24 = .ok (.iload_n 1, 1) := by decide +kernel
theorem dX8_tellsBest_25 : decode cX8_tellsBest 25 = .ok (.iload_n 3, 1) := by decide +kernel
theorem dX8_tellsBest_26 : decode cX8_tellsBest 26 = .ok (.invokevirtual 330, 3) := by decide +kernel
theorem dX8_tellsBest_29 : decode cX8_tellsBest 29 = .ok (.ifCond .ne 59, 3) := by decide +kernel
theorem dX8_tellsBest_32 : decode cX8_tellsBest 32 = .ok (.iconst 0, 1) := by decide +kernel
theorem dX8_tellsBest_33 : decode cX8_tellsBest 33 = .ok (.istore 4, 2) := by decide +kernel
theorem dX8_tellsBest_35 : decode cX8_tellsBest 35 = .ok (.aload_n 0, 1) := by decide +kernel
theorem dX8_tellsBest_36 : decode cX8_tellsBest 36 = .ok (.iload_n 1, 1) := by decide +kernel
theorem dX8_tellsBest_37 : decode cX8_tellsBest 37 = .ok (.iload_n 2, 1) := by decide +kernel
theorem dX8_tellsBest_38 : decode cX8_tellsBest 38 = .ok (.iload 4, 2) := by decide +kernel
theorem dX8_tellsBest_40 : decode cX8_tellsBest 40 = .ok (.invokevirtual 333, 3) := by decide +kernel
theorem dX8_tellsBest_43 : decode cX8_tellsBest 43 = .ok (.iload_n 3, 1) := by decide +kernel
theorem dX8_tellsBest_44 : decode cX8_tellsBest 44 = .ok (.if_icmp .eq 9, 3) := by decide +kernel
theorem dX8_tellsBest_47 : decode cX8_tellsBest 47 = .ok (.iinc 4 1, 3) := by decide +kernel
theorem dX8_tellsBest_50 : decode cX8_tellsBest 50 = .ok (.goto (-15), 3) := by decide +kernel
theorem dX8_tellsBest_53 : decode cX8_tellsBest 53 = .ok (.aload_n 0, 1) := by decide +kernel
theorem dX8_tellsBest_54 : decode cX8_tellsBest 54 = .ok (.iconst 0, 1) := by decide +kernel
theorem dX8_tellsBest_55 : decode cX8_tellsBest 55 = .ok (.invokevirtual 324, 3) := by decide +kernel
theorem dX8_tellsBest_58 : decode cX8_tellsBest 58 = .ok (.aload_n 0, 1) := by decide +kernel
theorem dX8_tellsBest_59 : decode cX8_tellsBest 59 = .ok (.iload_n 1, 1) := by decide +kernel
theorem dX8_tellsBest_60 : decode cX8_tellsBest 60 = .ok (.iload_n 2, 1) := by decide +kernel
theorem dX8_tellsBest_61 : decode cX8_tellsBest 61 = .ok (.invokevirtual 327, 3) := by decide +kernel
theorem dX8_tellsBest_64 : decode cX8_tellsBest 64 = .ok (.aload_n 0, 1) := by decide +kernel
theorem dX8_tellsBest_65 : decode cX8_tellsBest 65 = .ok (.getfield 112, 3) := by decide +kernel
theorem dX8_tellsBest_68 : decode cX8_tellsBest 68 = .ok (.aload_n 0, 1) := by decide +kernel
theorem dX8_tellsBest_69 : decode cX8_tellsBest 69 = .ok (.getfield 314, 3) := by decide +kernel
theorem dX8_tellsBest_72 : decode cX8_tellsBest 72 = .ok (.iload 4, 2) := by decide +kernel
theorem dX8_tellsBest_74 : decode cX8_tellsBest 74 = .ok (.iastore, 1) := by decide +kernel
theorem dX8_tellsBest_75 : decode cX8_tellsBest 75 = .ok (.aload_n 0, 1) := by decide +kernel
theorem dX8_tellsBest_76 : decode cX8_tellsBest 76 = .ok (.dup, 1) := by decide +kernel
theorem dX8_tellsBest_77 : decode cX8_tellsBest 77 = .ok (.getfield 314, 3) := by decide +kernel
theorem dX8_tellsBest_80 : decode cX8_tellsBest 80 = .ok (.iconst 1, 1) := by decide +kernel
theorem dX8_tellsBest_81 : decode cX8_tellsBest 81 = .ok (.iadd, 1) := by decide +kernel
theorem dX8_tellsBest_82 : decode cX8_tellsBest 82 = .ok (.putfield 314, 3) := by decide +kernel
theorem dX8_tellsBest_85 : decode cX8_tellsBest 85 = .ok (.goto (-62), 3) := by decide +kernel
theorem dX8_tellsBest_88 : decode cX8_tellsBest 88 = .ok (.return_, 1) := by decide +kernel
set_option maxRecDepth 20000 in
theorem ggX8_best_X8_isMachine : GoodIn wsX8_best wsX8_isMachine := goodIn_r _ [7, 8, 9, 10, 6, 11, 75, 76, 77, 78, 79, 80, 81, 82, 83, 84, 85, 86, 87, 88, 89, 90, 91, 92, 93, 94, 95, 96, 97, 98, 99, 100, 101, 102, 103, 104, 105, 106, 107, 108, 109, 110, 111, 112, 113, 114, 115, 116, 117, 118, 119, 120, 121] rfl (by decide +kernel)
set_option maxRecDepth 20000 in
theorem gX8_best_X8_isMachine : GoodIn wsX8_best (wsV RX8 204 RX8 yX8_isMachine wsX8_isMachine) := goodIn_app (goodIn_of _ (by decide +kernel)) ggX8_best_X8_isMachine
set_option maxRecDepth 20000 in
theorem ggX8_best_X8_isFine : GoodIn wsX8_best wsX8_isFine := goodIn_r _ [15, 16, 75, 76, 77, 78, 79, 80, 81, 82, 83, 84, 85, 86, 87, 88, 89, 90, 91, 92, 93, 94, 95, 96, 97, 98, 99, 100, 101, 102, 103, 104, 105, 106, 107, 108, 109, 110, 111, 112, 113, 114, 115, 116, 117, 118, 119, 120, 121] rfl (by decide +kernel)
set_option maxRecDepth 20000 in
theorem gX8_best_X8_isFine : GoodIn wsX8_best (wsV RX8 138 RX8 yX8_isFine wsX8_isFine) := goodIn_app (goodIn_of _ (by decide +kernel)) ggX8_best_X8_isFine
set_option maxRecDepth 20000 in
theorem ggX8_best_X8_rests : GoodIn wsX8_best wsX8_rests := goodIn_r _ [20, 1, 21, 2, 22, 23, 24, 25, 26, 27, 28, 6, 29, 30, 31, 32, 33, 34, 35, 36, 37, 38, 39, 40, 41, 75, 76, 77, 78, 79, 80, 81, 82, 83, 84, 85, 86, 87, 88, 89, 90, 91, 92, 93, 94, 95, 96, 97, 98, 99, 100, 101, 102, 103, 104, 105, 106, 107, 108, 109, 110, 111, 112, 113, 114, 115, 116, 117, 118, 119, 120, 121] rfl (by decide +kernel)
set_option maxRecDepth 20000 in
theorem gX8_best_X8_rests : GoodIn wsX8_best (wsV RX8 303 RX8 yX8_rests wsX8_rests) := goodIn_app (goodIn_of _ (by decide +kernel)) ggX8_best_X8_rests
set_option maxRecDepth 20000 in
theorem ggX8_best_X8_tellsBest : GoodIn wsX8_best wsX8_tellsBest := goodIn_r _ [45, 1, 46, 47, 48, 49, 50, 6, 51, 52, 2, 53, 54, 55, 56, 57, 22, 21, 25, 24, 23, 58, 59, 60, 61, 41, 40, 31, 32, 33, 34, 35, 36, 37, 38, 39, 62, 63, 64, 65, 66, 26, 27, 28, 29, 30, 67, 68, 69, 70, 75, 76, 77, 78, 79, 80, 81, 82, 83, 84, 85, 86, 87, 88, 89, 90, 91, 92, 93, 94, 95, 96, 97, 98, 99, 100, 101, 102, 103, 104, 105, 106, 107, 108, 109, 110, 111, 112, 113, 114, 115, 116, 117, 118, 119, 120, 121] rfl (by decide +kernel)
set_option maxRecDepth 20000 in
theorem gX8_best_X8_tellsBest : GoodIn wsX8_best (wsV RX8 336 RX8 yX8_tellsBest wsX8_tellsBest) := goodIn_app (goodIn_of _ (by decide +kernel)) ggX8_best_X8_tellsBest
set_option maxRecDepth 20000 in
theorem ggX8_best_X8_letterAt : GoodIn wsX8_best wsX8_letterAt := goodIn_r _ [74, 46, 47, 75, 76, 77, 78, 79, 80, 81, 82, 83, 84, 85, 86, 87, 88, 89, 90, 91, 92, 93, 94, 95, 96, 97, 98, 99, 100, 101, 102, 103, 104, 105, 106, 107, 108, 109, 110, 111, 112, 113, 114, 115, 116, 117, 118, 119, 120, 121] rfl (by decide +kernel)
set_option maxRecDepth 20000 in
theorem gX8_best_X8_letterAt : GoodIn wsX8_best (wsV RX8 321 RX8 yX8_letterAt wsX8_letterAt) := goodIn_app (goodIn_of _ (by decide +kernel)) ggX8_best_X8_letterAt
theorem dX8_best_0 : decode cX8_best 0 = .ok (.aload_n 0, 1) := by decide +kernel
theorem dX8_best_1 : decode cX8_best 1 = .ok (.aload_n 0, 1) := by decide +kernel
theorem dX8_best_2 : decode cX8_best 2 = .ok (.iload_n 1, 1) := by decide +kernel
theorem dX8_best_3 : decode cX8_best 3 = .ok (.invokevirtual 204, 3) := by decide +kernel
theorem dX8_best_6 : decode cX8_best 6 = .ok (.ifCond .eq 11, 3) := by decide +kernel
theorem dX8_best_9 : decode cX8_best 9 = .ok (.iload_n 3, 1) := by decide +kernel
theorem dX8_best_10 : decode cX8_best 10 = .ok (.ifCond .lt 7, 3) := by decide +kernel
theorem dX8_best_13 : decode cX8_best 13 = .ok (.iconst 0, 1) := by decide +kernel
theorem dX8_best_14 : decode cX8_best 14 = .ok (.goto 4, 3) := by decide +kernel
theorem dX8_best_17 : decode cX8_best 17 = .ok (.iconst 1, 1) := by decide +kernel
theorem dX8_best_18 : decode cX8_best 18 = .ok (.invokevirtual 138, 3) := by decide +kernel
theorem dX8_best_21 : decode cX8_best 21 = .ok (.ifCond .ne 5, 3) := by decide +kernel
theorem dX8_best_24 : decode cX8_best 24 = .ok (.iconst 0, 1) := by decide +kernel
theorem dX8_best_25 : decode cX8_best 25 = .ok (.ireturn, 1) := by decide +kernel
theorem dX8_best_26 : decode cX8_best 26 = .ok (.aload_n 0, 1) := by decide +kernel
theorem dX8_best_27 : decode cX8_best 27 = .ok (.iload_n 1, 1) := by decide +kernel
theorem dX8_best_28 : decode cX8_best 28 = .ok (.iload_n 2, 1) := by decide +kernel
theorem dX8_best_29 : decode cX8_best 29 = .ok (.invokevirtual 303, 3) := by decide +kernel
theorem dX8_best_32 : decode cX8_best 32 = .ok (.aload_n 0, 1) := by decide +kernel
theorem dX8_best_33 : decode cX8_best 33 = .ok (.getfield 96, 3) := by decide +kernel
theorem dX8_best_36 : decode cX8_best 36 = .ok (.iconst 0, 1) := by decide +kernel
theorem dX8_best_37 : decode cX8_best 37 = .ok (.iaload, 1) := by decide +kernel
theorem dX8_best_38 : decode cX8_best 38 = .ok (.ldc_w 284, 3) := by decide +kernel
theorem dX8_best_41 : decode cX8_best 41 = .ok (.if_icmp .ne 5, 3) := by decide +kernel
theorem dX8_best_44 : decode cX8_best 44 = .ok (.iconst (-1), 1) := by decide +kernel
theorem dX8_best_45 : decode cX8_best 45 = .ok (.ireturn, 1) := by decide +kernel
theorem dX8_best_46 : decode cX8_best 46 = .ok (.aload_n 0, 1) := by decide +kernel
theorem dX8_best_47 : decode cX8_best 47 = .ok (.iload_n 1, 1) := by decide +kernel
theorem dX8_best_48 : decode cX8_best 48 = .ok (.iload_n 2, 1) := by decide +kernel
theorem dX8_best_49 : decode cX8_best 49 = .ok (.invokevirtual 336, 3) := by decide +kernel
theorem dX8_best_52 : decode cX8_best 52 = .ok (.aload_n 0, 1) := by decide +kernel
theorem dX8_best_53 : decode cX8_best 53 = .ok (.iload_n 3, 1) := by decide +kernel
theorem dX8_best_54 : decode cX8_best 54 = .ok (.invokevirtual 321, 3) := by decide +kernel
theorem dX8_best_57 : decode cX8_best 57 = .ok (.ireturn, 1) := by decide +kernel
theorem dX8_lesser_0 : decode cX8_lesser 0 = .ok (.iload_n 0, 1) := by decide +kernel
theorem dX8_lesser_1 : decode cX8_lesser 1 = .ok (.iload_n 1, 1) := by decide +kernel
theorem dX8_lesser_2 : decode cX8_lesser 2 = .ok (.if_icmp .ge 7, 3) := by decide +kernel
theorem dX8_lesser_5 : decode cX8_lesser 5 = .ok (.iload_n 0, 1) := by decide +kernel
theorem dX8_lesser_6 : decode cX8_lesser 6 = .ok (.goto 4, 3) := by decide +kernel
theorem dX8_lesser_9 : decode cX8_lesser 9 = .ok (.iload_n 1, 1) := by decide +kernel
theorem dX8_lesser_10 : decode cX8_lesser 10 = .ok (.ireturn, 1) := by decide +kernel
theorem dX8_plus_0 : decode cX8_plus 0 = .ok (.iload_n 1, 1) := by decide +kernel
theorem dX8_plus_1 : decode cX8_plus 1 = .ok (.ldc_w 284, 3) := by decide +kernel
theorem dX8_plus_4 : decode cX8_plus 4 = .ok (.if_icmp .ne 9, 3) := by decide +kernel
theorem dX8_plus_7 : decode cX8_plus 7 = .ok (.ldc_w 284, 3) := by decide +kernel
theorem dX8_plus_10 : decode cX8_plus 10 = .ok (.goto 6, 3) := by decide +kernel
theorem dX8_plus_13 : decode cX8_plus 13 = .ok (.iload_n 1, 1) := by decide +kernel
theorem dX8_plus_14 : decode cX8_plus 14 = .ok (.iload_n 2, 1) := by decide +kernel
theorem dX8_plus_15 : decode cX8_plus 15 = .ok (.iadd, 1) := by decide +kernel
theorem dX8_plus_16 : decode cX8_plus 16 = .ok (.ireturn, 1) := by decide +kernel
theorem dX8_change_0 : decode cX8_change 0 = .ok (.iload_n 2, 1) := by decide +kernel
theorem dX8_change_1 : decode cX8_change 1 = .ok (.aload_n 0, 1) := by decide +kernel
theorem dX8_change_2 : decode cX8_change 2 = .ok (.getfield 135, 3) := by decide +kernel
theorem dX8_change_5 : decode cX8_change 5 = .ok (.if_icmp .ge 22, 3) := by decide +kernel
theorem dX8_change_8 : decode cX8_change 8 = .ok (.aload_n 0, 1) := by decide +kernel
theorem dX8_change_9 : decode cX8_change 9 = .ok (.getfield 7, 3) := by decide +kernel
theorem dX8_change_12 : decode cX8_change 12 = .ok (.iload_n 2, 1) := by decide +kernel
theorem dX8_change_13 : decode cX8_change 13 = .ok (.iaload, 1) := by decide +kernel
theorem dX8_change_14 : decode cX8_change 14 = .ok (.aload_n 0, 1) := by decide +kernel
theorem dX8_change_15 : decode cX8_change 15 = .ok (.getfield 25, 3) := by decide +kernel
theorem dX8_change_18 : decode cX8_change 18 = .ok (.iload_n 1, 1) := by decide +kernel
theorem dX8_change_19 : decode cX8_change 19 = .ok (.iaload, 1) := by decide +kernel
theorem dX8_change_20 : decode cX8_change 20 = .ok (.if_icmp .ne 7, 3) := by decide +kernel
theorem dX8_change_23 : decode cX8_change 23 = .ok (.iconst 0, 1) := by decide +kernel
theorem dX8_change_24 : decode cX8_change 24 = .ok (.goto 4, 3) := by decide +kernel
theorem dX8_change_27 : decode cX8_change 27 = .ok (.iconst 1, 1) := by decide +kernel
theorem dX8_change_28 : decode cX8_change 28 = .ok (.ireturn, 1) := by decide +kernel
set_option maxRecDepth 20000 in
theorem ggX8_restsOfChanges_X8_isEndOf : GoodIn wsX8_restsOfChanges wsX8_isEndOf := goodIn_r _ [12, 13, 26, 27, 28, 29, 30, 31, 32, 33, 34, 35, 36, 37, 38, 39, 40, 41, 42, 43, 44, 45, 46, 47, 48, 49, 50, 51, 52, 53, 54, 55, 56, 57, 58, 59, 60, 61, 62, 63, 64, 65, 66, 67, 68, 69, 70, 71, 72] rfl (by decide +kernel)
set_option maxRecDepth 20000 in
theorem gX8_restsOfChanges_X8_isEndOf : GoodIn wsX8_restsOfChanges (wsV RX8 201 RX8 yX8_isEndOf wsX8_isEndOf) := goodIn_app (goodIn_of _ (by decide +kernel)) ggX8_restsOfChanges_X8_isEndOf
set_option maxRecDepth 20000 in
theorem ggX8_restsOfChanges_X8_plus : GoodIn wsX8_restsOfChanges wsX8_plus := goodIn_r _ [17, 3] rfl (by decide +kernel)
set_option maxRecDepth 20000 in
theorem gX8_restsOfChanges_X8_plus : GoodIn wsX8_restsOfChanges (wsV RX8 339 RX8 yX8_plus wsX8_plus) := goodIn_app (goodIn_of _ (by decide +kernel)) ggX8_restsOfChanges_X8_plus
set_option maxRecDepth 20000 in
theorem ggX8_restsOfChanges_X8_lesser : GoodIn wsX8_restsOfChanges wsX8_lesser := goodIn_r _ [20] rfl (by decide +kernel)
set_option maxRecDepth 20000 in
theorem gX8_restsOfChanges_X8_lesser : GoodIn wsX8_restsOfChanges (va_wsS RX8 342 yX8_lesser wsX8_lesser) := goodIn_app (goodIn_of _ (by decide +kernel)) ggX8_restsOfChanges_X8_lesser
set_option maxRecDepth 20000 in
theorem ggX8_restsOfChanges_X8_change : GoodIn wsX8_restsOfChanges wsX8_change := goodIn_r _ [24, 2, 25, 5, 26, 27, 28, 29, 30, 31, 32, 33, 34, 35, 36, 37, 38, 39, 40, 41, 42, 43, 44, 45, 46, 47, 48, 49, 50, 51, 52, 53, 54, 55, 56, 57, 58, 59, 60, 61, 62, 63, 64, 65, 66, 67, 68, 69, 70, 71, 72] rfl (by decide +kernel)
set_option maxRecDepth 20000 in
theorem gX8_restsOfChanges_X8_change : GoodIn wsX8_restsOfChanges (wsV RX8 345 RX8 yX8_change wsX8_change) := goodIn_app (goodIn_of _ (by decide +kernel)) ggX8_restsOfChanges_X8_change
theorem dX8_restsOfChanges_0 : decode cX8_restsOfChanges 0 = .ok (.iconst 0, 1) := by decide +kernel
theorem dX8_restsOfChanges_1 : decode cX8_restsOfChanges 1 = .ok (.istore_n 2, 1) := by decide +kernel
theorem dX8_restsOfChanges_2 : decode cX8_restsOfChanges 2 = .ok (.iload_n 2, 1) := by decide +kernel
theorem dX8_restsOfChanges_3 : decode cX8_restsOfChanges 3 = .ok (.sipush 288, 3) := by decide +kernel
theorem dX8_restsOfChanges_6 : decode cX8_restsOfChanges 6 = .ok (.if_icmp .ge 45, 3) := by decide +kernel
theorem dX8_restsOfChanges_9 : decode cX8_restsOfChanges 9 = .ok (.aload_n 0, 1) := by decide +kernel
theorem dX8_restsOfChanges_10 : decode cX8_restsOfChanges 10 = .ok (.getfield 96, 3) := by decide +kernel
theorem dX8_restsOfChanges_13 : decode cX8_restsOfChanges 13 = .ok (.iload_n 2, 1) := by decide +kernel
theorem dX8_restsOfChanges_14 : decode cX8_restsOfChanges 14 = .ok (.iload_n 2, 1) := by decide +kernel
theorem dX8_restsOfChanges_15 : decode cX8_restsOfChanges 15 = .ok (.bipush 32, 2) := by decide +kernel
theorem dX8_restsOfChanges_17 : decode cX8_restsOfChanges 17 = .ok (.idiv, 1) := by decide +kernel
theorem dX8_restsOfChanges_18 : decode cX8_restsOfChanges 18 = .ok (.aload_n 0, 1) := by decide +kernel
theorem dX8_restsOfChanges_19 : decode cX8_restsOfChanges 19 = .ok (.getfield 135, 3) := by decide +kernel
theorem dX8_restsOfChanges_22 : decode cX8_restsOfChanges 22 = .ok (.if_icmp .ne 19, 3) := by decide +kernel
theorem dX8_restsOfChanges_25 : decode cX8_restsOfChanges 25 = .ok (.aload_n 0, 1) := by decide +kernel
theorem dX8_restsOfChanges_26 : decode cX8_restsOfChanges 26 = .ok (.iload_n 1, 1) := by decide +kernel
theorem dX8_restsOfChanges_27 : decode cX8_restsOfChanges 27 = .ok (.iload_n 2, 1) := by decide +kernel
theorem dX8_restsOfChanges_28 : decode cX8_restsOfChanges 28 = .ok (.bipush 32, 2) := by decide +kernel
theorem dX8_restsOfChanges_30 : decode cX8_restsOfChanges 30 = .ok (.irem, 1) := by decide +kernel
theorem dX8_restsOfChanges_31 : decode cX8_restsOfChanges 31 = .ok (.invokevirtual 201, 3) := by decide +kernel
theorem dX8_restsOfChanges_34 : decode cX8_restsOfChanges 34 = .ok (.ifCond .eq 7, 3) := by decide +kernel
theorem dX8_restsOfChanges_37 : decode cX8_restsOfChanges 37 = .ok (.iconst 0, 1) := by decide +kernel
theorem dX8_restsOfChanges_38 : decode cX8_restsOfChanges 38 = .ok (.goto 6, 3) := by decide +kernel
theorem dX8_restsOfChanges_41 : decode cX8_restsOfChanges 41 = .ok (.ldc_w 284, 3) := by decide +kernel
theorem dX8_restsOfChanges_44 : decode cX8_restsOfChanges 44 = .ok (.iastore, 1) := by decide +kernel
theorem dX8_restsOfChanges_45 : decode cX8_restsOfChanges 45 = .ok (.iinc 2 1, 3) := by decide +kernel
theorem dX8_restsOfChanges_48 : decode cX8_restsOfChanges 48 = .ok (.goto (-46), 3) := by decide +kernel
theorem dX8_restsOfChanges_51 : decode cX8_restsOfChanges 51 = .ok (.iconst 1, 1) := by decide +kernel
theorem dX8_restsOfChanges_52 : decode cX8_restsOfChanges 52 = .ok (.istore_n 2, 1) := by decide +kernel
theorem dX8_restsOfChanges_53 : decode cX8_restsOfChanges 53 = .ok (.iload_n 2, 1) := by decide +kernel
theorem dX8_restsOfChanges_54 : decode cX8_restsOfChanges 54 = .ok (.ifCond .eq 315, 3) := by decide +kernel
theorem dX8_restsOfChanges_57 : decode cX8_restsOfChanges 57 = .ok (.iconst 0, 1) := by decide +kernel
theorem dX8_restsOfChanges_58 : decode cX8_restsOfChanges 58 = .ok (.istore_n 2, 1) := by decide +kernel
theorem dX8_restsOfChanges_59 : decode cX8_restsOfChanges 59 = .ok (.iconst 0, 1) := by decide +kernel
theorem dX8_restsOfChanges_60 : decode cX8_restsOfChanges 60 = .ok (.istore_n 3, 1) := by decide +kernel
theorem dX8_restsOfChanges_61 : decode cX8_restsOfChanges 61 = .ok (.iload_n 3, 1) := by decide +kernel
theorem dX8_restsOfChanges_62 : decode cX8_restsOfChanges 62 = .ok (.bipush 32, 2) := by decide +kernel
theorem dX8_restsOfChanges_64 : decode cX8_restsOfChanges 64 = .ok (.aload_n 0, 1) := by decide +kernel
theorem dX8_restsOfChanges_65 : decode cX8_restsOfChanges 65 = .ok (.getfield 135, 3) := by decide +kernel
theorem dX8_restsOfChanges_68 : decode cX8_restsOfChanges 68 = .ok (.imul, 1) := by decide +kernel
theorem dX8_restsOfChanges_69 : decode cX8_restsOfChanges 69 = .ok (.if_icmp .ge 63, 3) := by decide +kernel
theorem dX8_restsOfChanges_72 : decode cX8_restsOfChanges 72 = .ok (.aload_n 0, 1) := by decide +kernel
theorem dX8_restsOfChanges_73 : decode cX8_restsOfChanges 73 = .ok (.aload_n 0, 1) := by decide +kernel
theorem dX8_restsOfChanges_74 : decode cX8_restsOfChanges 74 = .ok (.getfield 96, 3) := by decide +kernel
theorem dX8_restsOfChanges_77 : decode cX8_restsOfChanges 77 = .ok (.iload_n 3, 1) := by decide +kernel
theorem dX8_restsOfChanges_78 : decode cX8_restsOfChanges 78 = .ok (.bipush 32, 2) := by decide +kernel
theorem dX8_restsOfChanges_80 : decode cX8_restsOfChanges 80 = .ok (.iadd, 1) := by decide +kernel
theorem dX8_restsOfChanges_81 : decode cX8_restsOfChanges 81 = .ok (.iaload, 1) := by decide +kernel
theorem dX8_restsOfChanges_82 : decode cX8_restsOfChanges 82 = .ok (.iconst 1, 1) := by decide +kernel
theorem dX8_restsOfChanges_83 : decode cX8_restsOfChanges 83 = .ok (.invokevirtual 339, 3) := by decide +kernel
theorem dX8_restsOfChanges_86 : decode cX8_restsOfChanges 86 = .ok (.istore 4, 2) := by decide +kernel
theorem dX8_restsOfChanges_88 : decode cX8_restsOfChanges 88 = .ok (.iload_n 2, 1) := by decide +kernel
theorem dX8_restsOfChanges_89 : decode cX8_restsOfChanges 89 = .ok (.ifCond .ne 14, 3) := by decide +kernel
theorem dX8_restsOfChanges_92 : decode cX8_restsOfChanges 92 = .ok (.iload 4, 2) := by decide +kernel
theorem dX8_restsOfChanges_94 : decode cX8_restsOfChanges 94 = .ok (.aload_n 0, 1) := by decide +kernel
theorem dX8_restsOfChanges_95 : decode cX8_restsOfChanges 95 = .ok (.getfield 96, 3) := by decide +kernel
theorem dX8_restsOfChanges_98 : decode cX8_restsOfChanges 98 = .ok (.iload_n 3, 1) := by decide +kernel
theorem dX8_restsOfChanges_99 : decode cX8_restsOfChanges 99 = .ok (.iaload, 1) := by decide +kernel
theorem dX8_restsOfChanges_100 : decode cX8_restsOfChanges 100 = .ok (.if_icmp .ge 7, 3) := by decide +kernel
theorem dX8_restsOfChanges_103 : decode cX8_restsOfChanges 103 = .ok (.iconst 1, 1) := by decide +kernel
theorem dX8_restsOfChanges_104 : decode cX8_restsOfChanges 104 = .ok (.goto 4, 3) := by decide +kernel
theorem dX8_restsOfChanges_107 : decode cX8_restsOfChanges 107 = .ok (.iconst 0, 1) := by decide +kernel
theorem dX8_restsOfChanges_108 : decode cX8_restsOfChanges 108 = .ok (.istore_n 2, 1) := by decide +kernel
theorem dX8_restsOfChanges_109 : decode cX8_restsOfChanges 109 = .ok (.aload_n 0, 1) := by decide +kernel
theorem dX8_restsOfChanges_110 : decode cX8_restsOfChanges 110 = .ok (.getfield 96, 3) := by decide +kernel
theorem dX8_restsOfChanges_113 : decode cX8_restsOfChanges 113 = .ok (.iload_n 3, 1) := by decide +kernel
theorem dX8_restsOfChanges_114 : decode cX8_restsOfChanges 114 = .ok (.iload 4, 2) := by decide +kernel
theorem dX8_restsOfChanges_116 : decode cX8_restsOfChanges 116 = .ok (.aload_n 0, 1) := by decide +kernel
theorem dX8_restsOfChanges_117 : decode cX8_restsOfChanges 117 = .ok (.getfield 96, 3) := by decide +kernel
theorem dX8_restsOfChanges_120 : decode cX8_restsOfChanges 120 = .ok (.iload_n 3, 1) := by decide +kernel
theorem dX8_restsOfChanges_121 : decode cX8_restsOfChanges 121 = .ok (.iaload, 1) := by decide +kernel
theorem dX8_restsOfChanges_122 : decode cX8_restsOfChanges 122 = .ok (.invokestatic 342, 3) := by decide +kernel
theorem dX8_restsOfChanges_125 : decode cX8_restsOfChanges 125 = .ok (.iastore, 1) := by decide +kernel
theorem dX8_restsOfChanges_126 : decode cX8_restsOfChanges 126 = .ok (.iinc 3 1, 3) := by decide +kernel
theorem dX8_restsOfChanges_129 : decode cX8_restsOfChanges 129 = .ok (.goto (-68), 3) := by decide +kernel
theorem dX8_restsOfChanges_132 : decode cX8_restsOfChanges 132 = .ok (.sipush 160, 3) := by decide +kernel
theorem dX8_restsOfChanges_135 : decode cX8_restsOfChanges 135 = .ok (.iload_n 1, 1) := by decide +kernel
theorem dX8_restsOfChanges_136 : decode cX8_restsOfChanges 136 = .ok (.imul, 1) := by decide +kernel
theorem dX8_restsOfChanges_137 : decode cX8_restsOfChanges 137 = .ok (.istore_n 3, 1) := by decide +kernel
theorem dX8_restsOfChanges_138 : decode cX8_restsOfChanges 138 = .ok (.iload_n 3, 1) := by decide +kernel
theorem dX8_restsOfChanges_139 : decode cX8_restsOfChanges 139 = .ok (.sipush 160, 3) := by decide +kernel
theorem dX8_restsOfChanges_142 : decode cX8_restsOfChanges 142 = .ok (.iload_n 1, 1) := by decide +kernel
theorem dX8_restsOfChanges_143 : decode cX8_restsOfChanges 143 = .ok (.imul, 1) := by decide +kernel
theorem dX8_restsOfChanges_144 : decode cX8_restsOfChanges 144 = .ok (.aload_n 0, 1) := by decide +kernel
theorem dX8_restsOfChanges_145 : decode cX8_restsOfChanges 145 = .ok (.getfield 19, 3) := by decide +kernel
theorem dX8_restsOfChanges_148 : decode cX8_restsOfChanges 148 = .ok (.iload_n 1, 1) := by decide +kernel
theorem dX8_restsOfChanges_149 : decode cX8_restsOfChanges 149 = .ok (.iaload, 1) := by decide +kernel
theorem dX8_restsOfChanges_150 : decode cX8_restsOfChanges 150 = .ok (.iadd, 1) := by decide +kernel
theorem dX8_restsOfChanges_151 : decode cX8_restsOfChanges 151 = .ok (.if_icmp .ge 215, 3) := by decide +kernel
theorem dX8_restsOfChanges_154 : decode cX8_restsOfChanges 154 = .ok (.iconst 0, 1) := by decide +kernel
theorem dX8_restsOfChanges_155 : decode cX8_restsOfChanges 155 = .ok (.istore 4, 2) := by decide +kernel
theorem dX8_restsOfChanges_157 : decode cX8_restsOfChanges 157 = .ok (.iload 4, 2) := by decide +kernel
theorem dX8_restsOfChanges_159 : decode cX8_restsOfChanges 159 = .ok (.aload_n 0, 1) := by decide +kernel
theorem dX8_restsOfChanges_160 : decode cX8_restsOfChanges 160 = .ok (.getfield 135, 3) := by decide +kernel
theorem dX8_restsOfChanges_163 : decode cX8_restsOfChanges 163 = .ok (.if_icmp .gt 197, 3) := by decide +kernel
theorem dX8_restsOfChanges_166 : decode cX8_restsOfChanges 166 = .ok (.aload_n 0, 1) := by decide +kernel
theorem dX8_restsOfChanges_167 : decode cX8_restsOfChanges 167 = .ok (.getfield 25, 3) := by decide +kernel
theorem dX8_restsOfChanges_170 : decode cX8_restsOfChanges 170 = .ok (.iload_n 3, 1) := by decide +kernel
theorem dX8_restsOfChanges_171 : decode cX8_restsOfChanges 171 = .ok (.iaload, 1) := by decide +kernel
theorem dX8_restsOfChanges_172 : decode cX8_restsOfChanges 172 = .ok (.bipush 8, 2) := by decide +kernel
theorem dX8_restsOfChanges_174 : decode cX8_restsOfChanges 174 = .ok (.if_icmp .ne 23, 3) := by decide +kernel
theorem dX8_restsOfChanges_177 : decode cX8_restsOfChanges 177 = .ok (.aload_n 0, 1) := by decide +kernel
theorem dX8_restsOfChanges_178 : decode cX8_restsOfChanges 178 = .ok (.getfield 96, 3) := by decide +kernel
theorem dX8_restsOfChanges_181 : decode cX8_restsOfChanges 181 = .ok (.bipush 32, 2) := by decide +kernel
theorem dX8_restsOfChanges_183 : decode cX8_restsOfChanges 183 = .ok (.iload 4, 2) := by decide +kernel
theorem dX8_restsOfChanges_185 : decode cX8_restsOfChanges 185 = .ok (.imul, 1) := by decide +kernel
theorem dX8_restsOfChanges_186 : decode cX8_restsOfChanges 186 = .ok (.aload_n 0, 1) := by decide +kernel
theorem dX8_restsOfChanges_187 : decode cX8_restsOfChanges 187 = .ok (.getfield 34, 3) := by decide +kernel
theorem dX8_restsOfChanges_190 : decode cX8_restsOfChanges 190 = .ok (.iload_n 3, 1) := by decide +kernel
theorem dX8_restsOfChanges_191 : decode cX8_restsOfChanges 191 = .ok (.iaload, 1) := by decide +kernel
theorem dX8_restsOfChanges_192 : decode cX8_restsOfChanges 192 = .ok (.iadd, 1) := by decide +kernel
theorem dX8_restsOfChanges_193 : decode cX8_restsOfChanges 193 = .ok (.iaload, 1) := by decide +kernel
theorem dX8_restsOfChanges_194 : decode cX8_restsOfChanges 194 = .ok (.goto 25, 3) := by decide +kernel
theorem dX8_restsOfChanges_197 : decode cX8_restsOfChanges 197 = .ok (.aload_n 0, 1) := by decide +kernel
theorem dX8_restsOfChanges_198 : decode cX8_restsOfChanges 198 = .ok (.aload_n 0, 1) := by decide +kernel
theorem dX8_restsOfChanges_199 : decode cX8_restsOfChanges 199 = .ok (.getfield 96, 3) := by decide +kernel
theorem dX8_restsOfChanges_202 : decode cX8_restsOfChanges 202 = .ok (.bipush 32, 2) := by decide +kernel
theorem dX8_restsOfChanges_204 : decode cX8_restsOfChanges 204 = .ok (.iload 4, 2) := by decide +kernel
theorem dX8_restsOfChanges_206 : decode cX8_restsOfChanges 206 = .ok (.imul, 1) := by decide +kernel
theorem dX8_restsOfChanges_207 : decode cX8_restsOfChanges 207 = .ok (.aload_n 0, 1) := by decide +kernel
theorem dX8_restsOfChanges_208 : decode cX8_restsOfChanges 208 = .ok (.getfield 34, 3) := by decide +kernel
theorem dX8_restsOfChanges_211 : decode cX8_restsOfChanges 211 = .ok (.iload_n 3, 1) := by decide +kernel
theorem dX8_restsOfChanges_212 : decode cX8_restsOfChanges 212 = .ok (.iaload, 1) := by decide +kernel
theorem dX8_restsOfChanges_213 : decode cX8_restsOfChanges 213 = .ok (.iadd, 1) := by decide +kernel
theorem dX8_restsOfChanges_214 : decode cX8_restsOfChanges 214 = .ok (.iaload, 1) := by decide +kernel
theorem dX8_restsOfChanges_215 : decode cX8_restsOfChanges 215 = .ok (.iconst 1, 1) := by decide +kernel
theorem dX8_restsOfChanges_216 : decode cX8_restsOfChanges 216 = .ok (.invokevirtual 339, 3) := by decide +kernel
theorem dX8_restsOfChanges_219 : decode cX8_restsOfChanges 219 = .ok (.istore 5, 2) := by decide +kernel
theorem dX8_restsOfChanges_221 : decode cX8_restsOfChanges 221 = .ok (.aload_n 0, 1) := by decide +kernel
theorem dX8_restsOfChanges_222 : decode cX8_restsOfChanges 222 = .ok (.getfield 25, 3) := by decide +kernel
theorem dX8_restsOfChanges_225 : decode cX8_restsOfChanges 225 = .ok (.iload_n 3, 1) := by decide +kernel
theorem dX8_restsOfChanges_226 : decode cX8_restsOfChanges 226 = .ok (.iaload, 1) := by decide +kernel
theorem dX8_restsOfChanges_227 : decode cX8_restsOfChanges 227 = .ok (.bipush 8, 2) := by decide +kernel
theorem dX8_restsOfChanges_229 : decode cX8_restsOfChanges 229 = .ok (.if_icmp .eq 50, 3) := by decide +kernel
theorem dX8_restsOfChanges_232 : decode cX8_restsOfChanges 232 = .ok (.iload 4, 2) := by decide +kernel
theorem dX8_restsOfChanges_234 : decode cX8_restsOfChanges 234 = .ok (.aload_n 0, 1) := by decide +kernel
theorem dX8_restsOfChanges_235 : decode cX8_restsOfChanges 235 = .ok (.getfield 135, 3) := by decide +kernel
theorem dX8_restsOfChanges_238 : decode cX8_restsOfChanges 238 = .ok (.if_icmp .ge 41, 3) := by decide +kernel
theorem dX8_restsOfChanges_241 : decode cX8_restsOfChanges 241 = .ok (.iload 5, 2) := by decide +kernel
theorem dX8_restsOfChanges_243 : decode cX8_restsOfChanges 243 = .ok (.aload_n 0, 1) := by decide +kernel
theorem dX8_restsOfChanges_244 : decode cX8_restsOfChanges 244 = .ok (.aload_n 0, 1) := by decide +kernel
theorem dX8_restsOfChanges_245 : decode cX8_restsOfChanges 245 = .ok (.getfield 96, 3) := by decide +kernel
theorem dX8_restsOfChanges_248 : decode cX8_restsOfChanges 248 = .ok (.bipush 32, 2) := by decide +kernel
theorem dX8_restsOfChanges_250 : decode cX8_restsOfChanges 250 = .ok (.iload 4, 2) := by decide +kernel
theorem dX8_restsOfChanges_252 : decode cX8_restsOfChanges 252 = .ok (.iconst 1, 1) := by decide +kernel
theorem dX8_restsOfChanges_253 : decode cX8_restsOfChanges 253 = .ok (.iadd, 1) := by decide +kernel
theorem dX8_restsOfChanges_254 : decode cX8_restsOfChanges 254 = .ok (.imul, 1) := by decide +kernel
theorem dX8_restsOfChanges_255 : decode cX8_restsOfChanges 255 = .ok (.aload_n 0, 1) := by decide +kernel
theorem dX8_restsOfChanges_256 : decode cX8_restsOfChanges 256 = .ok (.getfield 34, 3) := by decide +kernel
theorem dX8_restsOfChanges_259 : decode cX8_restsOfChanges 259 = .ok (.iload_n 3, 1) := by decide +kernel
theorem dX8_restsOfChanges_260 : decode cX8_restsOfChanges 260 = .ok (.iaload, 1) := by decide +kernel
theorem dX8_restsOfChanges_261 : decode cX8_restsOfChanges 261 = .ok (.iadd, 1) := by decide +kernel
theorem dX8_restsOfChanges_262 : decode cX8_restsOfChanges 262 = .ok (.iaload, 1) := by decide +kernel
theorem dX8_restsOfChanges_263 : decode cX8_restsOfChanges 263 = .ok (.aload_n 0, 1) := by decide +kernel
theorem dX8_restsOfChanges_264 : decode cX8_restsOfChanges 264 = .ok (.iload_n 3, 1) := by decide +kernel
theorem dX8_restsOfChanges_265 : decode cX8_restsOfChanges 265 = .ok (.iload 4, 2) := by decide +kernel
theorem dX8_restsOfChanges_267 : decode cX8_restsOfChanges 267 = .ok (.invokevirtual 345, 3) := by decide +kernel
theorem dX8_restsOfChanges_270 : decode cX8_restsOfChanges 270 = .ok (.invokevirtual 339, 3) := by decide +kernel
theorem dX8_restsOfChanges_273 : decode cX8_restsOfChanges 273 = .ok (.invokestatic 342, 3) := by decide +kernel
theorem dX8_restsOfChanges_276 : decode cX8_restsOfChanges 276 = .ok (.goto 5, 3) := by decide +kernel
theorem dX8_restsOfChanges_279 : decode cX8_restsOfChanges 279 = .ok (.iload 5, 2) := by decide +kernel
theorem dX8_restsOfChanges_281 : decode cX8_restsOfChanges 281 = .ok (.istore 5, 2) := by decide +kernel
theorem dX8_restsOfChanges_283 : decode cX8_restsOfChanges 283 = .ok (.iload_n 2, 1) := by decide +kernel
theorem dX8_restsOfChanges_284 : decode cX8_restsOfChanges 284 = .ok (.ifCond .ne 25, 3) := by decide +kernel
theorem dX8_restsOfChanges_287 : decode cX8_restsOfChanges 287 = .ok (.iload 5, 2) := by decide +kernel
theorem dX8_restsOfChanges_289 : decode cX8_restsOfChanges 289 = .ok (.aload_n 0, 1) := by decide +kernel
theorem dX8_restsOfChanges_290 : decode cX8_restsOfChanges 290 = .ok (.getfield 96, 3) := by decide +kernel
theorem dX8_restsOfChanges_293 : decode cX8_restsOfChanges 293 = .ok (.bipush 32, 2) := by decide +kernel
theorem dX8_restsOfChanges_295 : decode cX8_restsOfChanges 295 = .ok (.iload 4, 2) := by decide +kernel
theorem dX8_restsOfChanges_297 : decode cX8_restsOfChanges 297 = .ok (.imul, 1) := by decide +kernel
theorem dX8_restsOfChanges_298 : decode cX8_restsOfChanges 298 = .ok (.aload_n 0, 1) := by decide +kernel
theorem dX8_restsOfChanges_299 : decode cX8_restsOfChanges 299 = .ok (.getfield 22, 3) := by decide +kernel
theorem dX8_restsOfChanges_302 : decode cX8_restsOfChanges 302 = .ok (.iload_n 3, 1) := by decide +kernel
theorem dX8_restsOfChanges_303 : decode cX8_restsOfChanges 303 = .ok (.iaload, 1) := by decide +kernel
theorem dX8_restsOfChanges_304 : decode cX8_restsOfChanges 304 = .ok (.iadd, 1) := by decide +kernel
theorem dX8_restsOfChanges_305 : decode cX8_restsOfChanges 305 = .ok (.iaload, 1) := by decide +kernel
theorem dX8_restsOfChanges_306 : decode cX8_restsOfChanges 306 = .ok (.if_icmp .ge 7, 3) := by decide +kernel
theorem dX8_restsOfChanges_309 : decode cX8_restsOfChanges 309 = .ok (.iconst 1, 1) := by decide +kernel
theorem dX8_restsOfChanges_310 : decode cX8_restsOfChanges 310 = .ok (.goto 4, 3) := by decide +kernel
theorem dX8_restsOfChanges_313 : decode cX8_restsOfChanges 313 = .ok (.iconst 0, 1) := by decide +kernel
theorem dX8_restsOfChanges_314 : decode cX8_restsOfChanges 314 = .ok (.istore_n 2, 1) := by decide +kernel
theorem dX8_restsOfChanges_315 : decode cX8_restsOfChanges 315 = .ok (.aload_n 0, 1) := by decide +kernel
theorem dX8_restsOfChanges_316 : decode cX8_restsOfChanges 316 = .ok (.getfield 96, 3) := by decide +kernel
theorem dX8_restsOfChanges_319 : decode cX8_restsOfChanges 319 = .ok (.bipush 32, 2) := by decide +kernel
theorem dX8_restsOfChanges_321 : decode cX8_restsOfChanges 321 = .ok (.iload 4, 2) := by decide +kernel
theorem dX8_restsOfChanges_323 : decode cX8_restsOfChanges 323 = .ok (.imul, 1) := by decide +kernel
theorem dX8_restsOfChanges_324 : decode cX8_restsOfChanges 324 = .ok (.aload_n 0, 1) := by decide +kernel
theorem dX8_restsOfChanges_325 : decode cX8_restsOfChanges 325 = .ok (.getfield 22, 3) := by decide +kernel
theorem dX8_restsOfChanges_328 : decode cX8_restsOfChanges 328 = .ok (.iload_n 3, 1) := by decide +kernel
theorem dX8_restsOfChanges_329 : decode cX8_restsOfChanges 329 = .ok (.iaload, 1) := by decide +kernel
theorem dX8_restsOfChanges_330 : decode cX8_restsOfChanges 330 = .ok (.iadd, 1) := by decide +kernel
theorem dX8_restsOfChanges_331 : decode cX8_restsOfChanges 331 = .ok (.iload 5, 2) := by decide +kernel
theorem dX8_restsOfChanges_333 : decode cX8_restsOfChanges 333 = .ok (.aload_n 0, 1) := by decide +kernel
theorem dX8_restsOfChanges_334 : decode cX8_restsOfChanges 334 = .ok (.getfield 96, 3) := by decide +kernel
theorem dX8_restsOfChanges_337 : decode cX8_restsOfChanges 337 = .ok (.bipush 32, 2) := by decide +kernel
theorem dX8_restsOfChanges_339 : decode cX8_restsOfChanges 339 = .ok (.iload 4, 2) := by decide +kernel
theorem dX8_restsOfChanges_341 : decode cX8_restsOfChanges 341 = .ok (.imul, 1) := by decide +kernel
theorem dX8_restsOfChanges_342 : decode cX8_restsOfChanges 342 = .ok (.aload_n 0, 1) := by decide +kernel
theorem dX8_restsOfChanges_343 : decode cX8_restsOfChanges 343 = .ok (.getfield 22, 3) := by decide +kernel
theorem dX8_restsOfChanges_346 : decode cX8_restsOfChanges 346 = .ok (.iload_n 3, 1) := by decide +kernel
theorem dX8_restsOfChanges_347 : decode cX8_restsOfChanges 347 = .ok (.iaload, 1) := by decide +kernel
theorem dX8_restsOfChanges_348 : decode cX8_restsOfChanges 348 = .ok (.iadd, 1) := by decide +kernel
theorem dX8_restsOfChanges_349 : decode cX8_restsOfChanges 349 = .ok (.iaload, 1) := by decide +kernel
theorem dX8_restsOfChanges_350 : decode cX8_restsOfChanges 350 = .ok (.invokestatic 342, 3) := by decide +kernel
theorem dX8_restsOfChanges_353 : decode cX8_restsOfChanges 353 = .ok (.iastore, 1) := by decide +kernel
theorem dX8_restsOfChanges_354 : decode cX8_restsOfChanges 354 = .ok (.iinc 4 1, 3) := by decide +kernel
theorem dX8_restsOfChanges_357 : decode cX8_restsOfChanges 357 = .ok (.goto (-200), 3) := by decide +kernel
theorem dX8_restsOfChanges_360 : decode cX8_restsOfChanges 360 = .ok (.iinc 3 1, 3) := by decide +kernel
theorem dX8_restsOfChanges_363 : decode cX8_restsOfChanges 363 = .ok (.goto (-225), 3) := by decide +kernel
theorem dX8_restsOfChanges_366 : decode cX8_restsOfChanges 366 = .ok (.goto (-313), 3) := by decide +kernel
theorem dX8_restsOfChanges_369 : decode cX8_restsOfChanges 369 = .ok (.return_, 1) := by decide +kernel
set_option maxRecDepth 20000 in
theorem ggX8_closesChanges_X8_plus : GoodIn wsX8_closesChanges wsX8_plus := goodIn_r _ [11, 12] rfl (by decide +kernel)
set_option maxRecDepth 20000 in
theorem gX8_closesChanges_X8_plus : GoodIn wsX8_closesChanges (wsV RX8 339 RX8 yX8_plus wsX8_plus) := goodIn_app (goodIn_of _ (by decide +kernel)) ggX8_closesChanges_X8_plus
set_option maxRecDepth 20000 in
theorem ggX8_closesChanges_X8_lesser : GoodIn wsX8_closesChanges wsX8_lesser := goodIn_r _ [15] rfl (by decide +kernel)
set_option maxRecDepth 20000 in
theorem gX8_closesChanges_X8_lesser : GoodIn wsX8_closesChanges (va_wsS RX8 342 yX8_lesser wsX8_lesser) := goodIn_app (goodIn_of _ (by decide +kernel)) ggX8_closesChanges_X8_lesser
theorem dX8_closesChanges_0 : decode cX8_closesChanges 0 = .ok (.iconst 1, 1) := by decide +kernel
theorem dX8_closesChanges_1 : decode cX8_closesChanges 1 = .ok (.istore_n 2, 1) := by decide +kernel
theorem dX8_closesChanges_2 : decode cX8_closesChanges 2 = .ok (.iload_n 2, 1) := by decide +kernel
theorem dX8_closesChanges_3 : decode cX8_closesChanges 3 = .ok (.ifCond .eq 234, 3) := by decide +kernel
theorem dX8_closesChanges_6 : decode cX8_closesChanges 6 = .ok (.iconst 0, 1) := by decide +kernel
theorem dX8_closesChanges_7 : decode cX8_closesChanges 7 = .ok (.istore_n 2, 1) := by decide +kernel
theorem dX8_closesChanges_8 : decode cX8_closesChanges 8 = .ok (.iconst 0, 1) := by decide +kernel
theorem dX8_closesChanges_9 : decode cX8_closesChanges 9 = .ok (.istore_n 3, 1) := by decide +kernel
theorem dX8_closesChanges_10 : decode cX8_closesChanges 10 = .ok (.iload_n 3, 1) := by decide +kernel
theorem dX8_closesChanges_11 : decode cX8_closesChanges 11 = .ok (.bipush 32, 2) := by decide +kernel
theorem dX8_closesChanges_13 : decode cX8_closesChanges 13 = .ok (.aload_n 0, 1) := by decide +kernel
theorem dX8_closesChanges_14 : decode cX8_closesChanges 14 = .ok (.getfield 135, 3) := by decide +kernel
theorem dX8_closesChanges_17 : decode cX8_closesChanges 17 = .ok (.imul, 1) := by decide +kernel
theorem dX8_closesChanges_18 : decode cX8_closesChanges 18 = .ok (.if_icmp .ge 69, 3) := by decide +kernel
theorem dX8_closesChanges_21 : decode cX8_closesChanges 21 = .ok (.aload_n 0, 1) := by decide +kernel
theorem dX8_closesChanges_22 : decode cX8_closesChanges 22 = .ok (.aload_n 0, 1) := by decide +kernel
theorem dX8_closesChanges_23 : decode cX8_closesChanges 23 = .ok (.getfield 99, 3) := by decide +kernel
theorem dX8_closesChanges_26 : decode cX8_closesChanges 26 = .ok (.iload_n 3, 1) := by decide +kernel
theorem dX8_closesChanges_27 : decode cX8_closesChanges 27 = .ok (.iaload, 1) := by decide +kernel
theorem dX8_closesChanges_28 : decode cX8_closesChanges 28 = .ok (.iconst 1, 1) := by decide +kernel
theorem dX8_closesChanges_29 : decode cX8_closesChanges 29 = .ok (.invokevirtual 339, 3) := by decide +kernel
theorem dX8_closesChanges_32 : decode cX8_closesChanges 32 = .ok (.istore 4, 2) := by decide +kernel
theorem dX8_closesChanges_34 : decode cX8_closesChanges 34 = .ok (.iload_n 2, 1) := by decide +kernel
theorem dX8_closesChanges_35 : decode cX8_closesChanges 35 = .ok (.ifCond .ne 17, 3) := by decide +kernel
theorem dX8_closesChanges_38 : decode cX8_closesChanges 38 = .ok (.iload 4, 2) := by decide +kernel
theorem dX8_closesChanges_40 : decode cX8_closesChanges 40 = .ok (.aload_n 0, 1) := by decide +kernel
theorem dX8_closesChanges_41 : decode cX8_closesChanges 41 = .ok (.getfield 99, 3) := by decide +kernel
theorem dX8_closesChanges_44 : decode cX8_closesChanges 44 = .ok (.iload_n 3, 1) := by decide +kernel
theorem dX8_closesChanges_45 : decode cX8_closesChanges 45 = .ok (.bipush 32, 2) := by decide +kernel
theorem dX8_closesChanges_47 : decode cX8_closesChanges 47 = .ok (.iadd, 1) := by decide +kernel
theorem dX8_closesChanges_48 : decode cX8_closesChanges 48 = .ok (.iaload, 1) := by decide +kernel
theorem dX8_closesChanges_49 : decode cX8_closesChanges 49 = .ok (.if_icmp .ge 7, 3) := by decide +kernel
theorem dX8_closesChanges_52 : decode cX8_closesChanges 52 = .ok (.iconst 1, 1) := by decide +kernel
theorem dX8_closesChanges_53 : decode cX8_closesChanges 53 = .ok (.goto 4, 3) := by decide +kernel
theorem dX8_closesChanges_56 : decode cX8_closesChanges 56 = .ok (.iconst 0, 1) := by decide +kernel
theorem dX8_closesChanges_57 : decode cX8_closesChanges 57 = .ok (.istore_n 2, 1) := by decide +kernel
theorem dX8_closesChanges_58 : decode cX8_closesChanges 58 = .ok (.aload_n 0, 1) := by decide +kernel
theorem dX8_closesChanges_59 : decode cX8_closesChanges 59 = .ok (.getfield 99, 3) := by decide +kernel
theorem dX8_closesChanges_62 : decode cX8_closesChanges 62 = .ok (.iload_n 3, 1) := by decide +kernel
theorem dX8_closesChanges_63 : decode cX8_closesChanges 63 = .ok (.bipush 32, 2) := by decide +kernel
theorem dX8_closesChanges_65 : decode cX8_closesChanges 65 = .ok (.iadd, 1) := by decide +kernel
theorem dX8_closesChanges_66 : decode cX8_closesChanges 66 = .ok (.iload 4, 2) := by decide +kernel
theorem dX8_closesChanges_68 : decode cX8_closesChanges 68 = .ok (.aload_n 0, 1) := by decide +kernel
theorem dX8_closesChanges_69 : decode cX8_closesChanges 69 = .ok (.getfield 99, 3) := by decide +kernel
theorem dX8_closesChanges_72 : decode cX8_closesChanges 72 = .ok (.iload_n 3, 1) := by decide +kernel
theorem dX8_closesChanges_73 : decode cX8_closesChanges 73 = .ok (.bipush 32, 2) := by decide +kernel
theorem dX8_closesChanges_75 : decode cX8_closesChanges 75 = .ok (.iadd, 1) := by decide +kernel
theorem dX8_closesChanges_76 : decode cX8_closesChanges 76 = .ok (.iaload, 1) := by decide +kernel
theorem dX8_closesChanges_77 : decode cX8_closesChanges 77 = .ok (.invokestatic 342, 3) := by decide +kernel
theorem dX8_closesChanges_80 : decode cX8_closesChanges 80 = .ok (.iastore, 1) := by decide +kernel
theorem dX8_closesChanges_81 : decode cX8_closesChanges 81 = .ok (.iinc 3 1, 3) := by decide +kernel
theorem dX8_closesChanges_84 : decode cX8_closesChanges 84 = .ok (.goto (-74), 3) := by decide +kernel
theorem dX8_closesChanges_87 : decode cX8_closesChanges 87 = .ok (.sipush 160, 3) := by decide +kernel
theorem dX8_closesChanges_90 : decode cX8_closesChanges 90 = .ok (.iload_n 1, 1) := by decide +kernel
theorem dX8_closesChanges_91 : decode cX8_closesChanges 91 = .ok (.imul, 1) := by decide +kernel
theorem dX8_closesChanges_92 : decode cX8_closesChanges 92 = .ok (.istore_n 3, 1) := by decide +kernel
theorem dX8_closesChanges_93 : decode cX8_closesChanges 93 = .ok (.iload_n 3, 1) := by decide +kernel
theorem dX8_closesChanges_94 : decode cX8_closesChanges 94 = .ok (.sipush 160, 3) := by decide +kernel
theorem dX8_closesChanges_97 : decode cX8_closesChanges 97 = .ok (.iload_n 1, 1) := by decide +kernel
theorem dX8_closesChanges_98 : decode cX8_closesChanges 98 = .ok (.imul, 1) := by decide +kernel
theorem dX8_closesChanges_99 : decode cX8_closesChanges 99 = .ok (.aload_n 0, 1) := by decide +kernel
theorem dX8_closesChanges_100 : decode cX8_closesChanges 100 = .ok (.getfield 19, 3) := by decide +kernel
theorem dX8_closesChanges_103 : decode cX8_closesChanges 103 = .ok (.iload_n 1, 1) := by decide +kernel
theorem dX8_closesChanges_104 : decode cX8_closesChanges 104 = .ok (.iaload, 1) := by decide +kernel
theorem dX8_closesChanges_105 : decode cX8_closesChanges 105 = .ok (.iadd, 1) := by decide +kernel
theorem dX8_closesChanges_106 : decode cX8_closesChanges 106 = .ok (.if_icmp .ge 128, 3) := by decide +kernel
theorem dX8_closesChanges_109 : decode cX8_closesChanges 109 = .ok (.iconst 0, 1) := by decide +kernel
theorem dX8_closesChanges_110 : decode cX8_closesChanges 110 = .ok (.istore 4, 2) := by decide +kernel
theorem dX8_closesChanges_112 : decode cX8_closesChanges 112 = .ok (.iload 4, 2) := by decide +kernel
theorem dX8_closesChanges_114 : decode cX8_closesChanges 114 = .ok (.aload_n 0, 1) := by decide +kernel
theorem dX8_closesChanges_115 : decode cX8_closesChanges 115 = .ok (.getfield 135, 3) := by decide +kernel
theorem dX8_closesChanges_118 : decode cX8_closesChanges 118 = .ok (.if_icmp .gt 110, 3) := by decide +kernel
theorem dX8_closesChanges_121 : decode cX8_closesChanges 121 = .ok (.aload_n 0, 1) := by decide +kernel
theorem dX8_closesChanges_122 : decode cX8_closesChanges 122 = .ok (.getfield 25, 3) := by decide +kernel
theorem dX8_closesChanges_125 : decode cX8_closesChanges 125 = .ok (.iload_n 3, 1) := by decide +kernel
theorem dX8_closesChanges_126 : decode cX8_closesChanges 126 = .ok (.iaload, 1) := by decide +kernel
theorem dX8_closesChanges_127 : decode cX8_closesChanges 127 = .ok (.bipush 8, 2) := by decide +kernel
theorem dX8_closesChanges_129 : decode cX8_closesChanges 129 = .ok (.if_icmp .ne 99, 3) := by decide +kernel
theorem dX8_closesChanges_132 : decode cX8_closesChanges 132 = .ok (.aload_n 0, 1) := by decide +kernel
theorem dX8_closesChanges_133 : decode cX8_closesChanges 133 = .ok (.getfield 99, 3) := by decide +kernel
theorem dX8_closesChanges_136 : decode cX8_closesChanges 136 = .ok (.bipush 32, 2) := by decide +kernel
theorem dX8_closesChanges_138 : decode cX8_closesChanges 138 = .ok (.iload 4, 2) := by decide +kernel
theorem dX8_closesChanges_140 : decode cX8_closesChanges 140 = .ok (.imul, 1) := by decide +kernel
theorem dX8_closesChanges_141 : decode cX8_closesChanges 141 = .ok (.aload_n 0, 1) := by decide +kernel
theorem dX8_closesChanges_142 : decode cX8_closesChanges 142 = .ok (.getfield 22, 3) := by decide +kernel
theorem dX8_closesChanges_145 : decode cX8_closesChanges 145 = .ok (.iload_n 3, 1) := by decide +kernel
theorem dX8_closesChanges_146 : decode cX8_closesChanges 146 = .ok (.iaload, 1) := by decide +kernel
theorem dX8_closesChanges_147 : decode cX8_closesChanges 147 = .ok (.iadd, 1) := by decide +kernel
theorem dX8_closesChanges_148 : decode cX8_closesChanges 148 = .ok (.iaload, 1) := by decide +kernel
theorem dX8_closesChanges_149 : decode cX8_closesChanges 149 = .ok (.istore 5, 2) := by decide +kernel
theorem dX8_closesChanges_151 : decode cX8_closesChanges 151 = .ok (.iload_n 2, 1) := by decide +kernel
theorem dX8_closesChanges_152 : decode cX8_closesChanges 152 = .ok (.ifCond .ne 25, 3) := by decide +kernel
theorem dX8_closesChanges_155 : decode cX8_closesChanges 155 = .ok (.iload 5, 2) := by decide +kernel
theorem dX8_closesChanges_157 : decode cX8_closesChanges 157 = .ok (.aload_n 0, 1) := by decide +kernel
theorem dX8_closesChanges_158 : decode cX8_closesChanges 158 = .ok (.getfield 99, 3) := by decide +kernel
theorem dX8_closesChanges_161 : decode cX8_closesChanges 161 = .ok (.bipush 32, 2) := by decide +kernel
theorem dX8_closesChanges_163 : decode cX8_closesChanges 163 = .ok (.iload 4, 2) := by decide +kernel
theorem dX8_closesChanges_165 : decode cX8_closesChanges 165 = .ok (.imul, 1) := by decide +kernel
theorem dX8_closesChanges_166 : decode cX8_closesChanges 166 = .ok (.aload_n 0, 1) := by decide +kernel
theorem dX8_closesChanges_167 : decode cX8_closesChanges 167 = .ok (.getfield 34, 3) := by decide +kernel
theorem dX8_closesChanges_170 : decode cX8_closesChanges 170 = .ok (.iload_n 3, 1) := by decide +kernel
theorem dX8_closesChanges_171 : decode cX8_closesChanges 171 = .ok (.iaload, 1) := by decide +kernel
theorem dX8_closesChanges_172 : decode cX8_closesChanges 172 = .ok (.iadd, 1) := by decide +kernel
theorem dX8_closesChanges_173 : decode cX8_closesChanges 173 = .ok (.iaload, 1) := by decide +kernel
theorem dX8_closesChanges_174 : decode cX8_closesChanges 174 = .ok (.if_icmp .ge 7, 3) := by decide +kernel
theorem dX8_closesChanges_177 : decode cX8_closesChanges 177 = .ok (.iconst 1, 1) := by decide +kernel
theorem dX8_closesChanges_178 : decode cX8_closesChanges 178 = .ok (.goto 4, 3) := by decide +kernel
theorem dX8_closesChanges_181 : decode cX8_closesChanges 181 = .ok (.iconst 0, 1) := by decide +kernel
theorem dX8_closesChanges_182 : decode cX8_closesChanges 182 = .ok (.istore_n 2, 1) := by decide +kernel
theorem dX8_closesChanges_183 : decode cX8_closesChanges 183 = .ok (.aload_n 0, 1) := by decide +kernel
theorem dX8_closesChanges_184 : decode cX8_closesChanges 184 = .ok (.getfield 99, 3) := by decide +kernel
theorem dX8_closesChanges_187 : decode cX8_closesChanges 187 = .ok (.bipush 32, 2) := by decide +kernel
theorem dX8_closesChanges_189 : decode cX8_closesChanges 189 = .ok (.iload 4, 2) := by decide +kernel
theorem dX8_closesChanges_191 : decode cX8_closesChanges 191 = .ok (.imul, 1) := by decide +kernel
theorem dX8_closesChanges_192 : decode cX8_closesChanges 192 = .ok (.aload_n 0, 1) := by decide +kernel
theorem dX8_closesChanges_193 : decode cX8_closesChanges 193 = .ok (.getfield 34, 3) := by decide +kernel
theorem dX8_closesChanges_196 : decode cX8_closesChanges 196 = .ok (.iload_n 3, 1) := by decide +kernel
theorem dX8_closesChanges_197 : decode cX8_closesChanges 197 = .ok (.iaload, 1) := by decide +kernel
theorem dX8_closesChanges_198 : decode cX8_closesChanges 198 = .ok (.iadd, 1) := by decide +kernel
theorem dX8_closesChanges_199 : decode cX8_closesChanges 199 = .ok (.iload 5, 2) := by decide +kernel
theorem dX8_closesChanges_201 : decode cX8_closesChanges 201 = .ok (.aload_n 0, 1) := by decide +kernel
theorem dX8_closesChanges_202 : decode cX8_closesChanges 202 = .ok (.getfield 99, 3) := by decide +kernel
theorem dX8_closesChanges_205 : decode cX8_closesChanges 205 = .ok (.bipush 32, 2) := by decide +kernel
theorem dX8_closesChanges_207 : decode cX8_closesChanges 207 = .ok (.iload 4, 2) := by decide +kernel
theorem dX8_closesChanges_209 : decode cX8_closesChanges 209 = .ok (.imul, 1) := by decide +kernel
theorem dX8_closesChanges_210 : decode cX8_closesChanges 210 = .ok (.aload_n 0, 1) := by decide +kernel
theorem dX8_closesChanges_211 : decode cX8_closesChanges 211 = .ok (.getfield 34, 3) := by decide +kernel
theorem dX8_closesChanges_214 : decode cX8_closesChanges 214 = .ok (.iload_n 3, 1) := by decide +kernel
theorem dX8_closesChanges_215 : decode cX8_closesChanges 215 = .ok (.iaload, 1) := by decide +kernel
theorem dX8_closesChanges_216 : decode cX8_closesChanges 216 = .ok (.iadd, 1) := by decide +kernel
theorem dX8_closesChanges_217 : decode cX8_closesChanges 217 = .ok (.iaload, 1) := by decide +kernel
theorem dX8_closesChanges_218 : decode cX8_closesChanges 218 = .ok (.invokestatic 342, 3) := by decide +kernel
theorem dX8_closesChanges_221 : decode cX8_closesChanges 221 = .ok (.iastore, 1) := by decide +kernel
theorem dX8_closesChanges_222 : decode cX8_closesChanges 222 = .ok (.iinc 4 1, 3) := by decide +kernel
theorem dX8_closesChanges_225 : decode cX8_closesChanges 225 = .ok (.goto (-113), 3) := by decide +kernel
theorem dX8_closesChanges_228 : decode cX8_closesChanges 228 = .ok (.iinc 3 1, 3) := by decide +kernel
theorem dX8_closesChanges_231 : decode cX8_closesChanges 231 = .ok (.goto (-138), 3) := by decide +kernel
theorem dX8_closesChanges_234 : decode cX8_closesChanges 234 = .ok (.goto (-232), 3) := by decide +kernel
theorem dX8_closesChanges_237 : decode cX8_closesChanges 237 = .ok (.return_, 1) := by decide +kernel
set_option maxRecDepth 20000 in
theorem ggX8_goesChanged_X8_plus : GoodIn wsX8_goesChanged wsX8_plus := goodIn_r _ [14, 2] rfl (by decide +kernel)
set_option maxRecDepth 20000 in
theorem gX8_goesChanged_X8_plus : GoodIn wsX8_goesChanged (wsV RX8 339 RX8 yX8_plus wsX8_plus) := goodIn_app (goodIn_of _ (by decide +kernel)) ggX8_goesChanged_X8_plus
set_option maxRecDepth 20000 in
theorem ggX8_goesChanged_X8_lesser : GoodIn wsX8_goesChanged wsX8_lesser := goodIn_r _ [17] rfl (by decide +kernel)
set_option maxRecDepth 20000 in
theorem gX8_goesChanged_X8_lesser : GoodIn wsX8_goesChanged (va_wsS RX8 342 yX8_lesser wsX8_lesser) := goodIn_app (goodIn_of _ (by decide +kernel)) ggX8_goesChanged_X8_lesser
set_option maxRecDepth 20000 in
theorem ggX8_goesChanged_X8_change : GoodIn wsX8_goesChanged wsX8_change := goodIn_r _ [21, 4, 22, 5, 23, 24, 25, 26, 27, 28, 29, 30, 31, 32, 33, 34, 35, 36, 37, 38, 39, 40, 41, 42, 43, 44, 45, 46, 47, 48, 49, 50, 51, 52, 53, 54, 55, 56, 57, 58, 59, 60, 61, 62, 63, 64, 65, 66, 67, 68, 69] rfl (by decide +kernel)
set_option maxRecDepth 20000 in
theorem gX8_goesChanged_X8_change : GoodIn wsX8_goesChanged (wsV RX8 345 RX8 yX8_change wsX8_change) := goodIn_app (goodIn_of _ (by decide +kernel)) ggX8_goesChanged_X8_change
theorem dX8_goesChanged_0 : decode cX8_goesChanged 0 = .ok (.iconst 0, 1) := by decide +kernel
theorem dX8_goesChanged_1 : decode cX8_goesChanged 1 = .ok (.istore_n 3, 1) := by decide +kernel
theorem dX8_goesChanged_2 : decode cX8_goesChanged 2 = .ok (.iload_n 3, 1) := by decide +kernel
theorem dX8_goesChanged_3 : decode cX8_goesChanged 3 = .ok (.sipush 288, 3) := by decide +kernel
theorem dX8_goesChanged_6 : decode cX8_goesChanged 6 = .ok (.if_icmp .ge 18, 3) := by decide +kernel
theorem dX8_goesChanged_9 : decode cX8_goesChanged 9 = .ok (.aload_n 0, 1) := by decide +kernel
