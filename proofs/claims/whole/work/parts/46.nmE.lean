theorem dX8_makesLeast_114 : decode cX8_makesLeast 114 = .ok (.aload_n 0, 1) := by decide +kernel
theorem dX8_makesLeast_115 : decode cX8_makesLeast 115 = .ok (.iload 6, 2) := by decide +kernel
theorem dX8_makesLeast_117 : decode cX8_makesLeast 117 = .ok (.iload_n 1, 1) := by decide +kernel
theorem dX8_makesLeast_118 : decode cX8_makesLeast 118 = .ok (.iload_n 2, 1) := by decide +kernel
theorem dX8_makesLeast_119 : decode cX8_makesLeast 119 = .ok (.iload_n 3, 1) := by decide +kernel
theorem dX8_makesLeast_120 : decode cX8_makesLeast 120 = .ok (.invokevirtual 253, 3) := by decide +kernel
theorem dX8_makesLeast_123 : decode cX8_makesLeast 123 = .ok (.bastore, 1) := by decide +kernel
theorem dX8_makesLeast_124 : decode cX8_makesLeast 124 = .ok (.iconst 1, 1) := by decide +kernel
theorem dX8_makesLeast_125 : decode cX8_makesLeast 125 = .ok (.istore 7, 2) := by decide +kernel
theorem dX8_makesLeast_127 : decode cX8_makesLeast 127 = .ok (.iconst 0, 1) := by decide +kernel
theorem dX8_makesLeast_128 : decode cX8_makesLeast 128 = .ok (.istore 8, 2) := by decide +kernel
theorem dX8_makesLeast_130 : decode cX8_makesLeast 130 = .ok (.iload 8, 2) := by decide +kernel
theorem dX8_makesLeast_132 : decode cX8_makesLeast 132 = .ok (.iload 6, 2) := by decide +kernel
theorem dX8_makesLeast_134 : decode cX8_makesLeast 134 = .ok (.if_icmp .ge 38, 3) := by decide +kernel
theorem dX8_makesLeast_137 : decode cX8_makesLeast 137 = .ok (.iload 7, 2) := by decide +kernel
theorem dX8_makesLeast_139 : decode cX8_makesLeast 139 = .ok (.ifCond .eq 24, 3) := by decide +kernel
theorem dX8_makesLeast_142 : decode cX8_makesLeast 142 = .ok (.aload_n 0, 1) := by decide +kernel
theorem dX8_makesLeast_143 : decode cX8_makesLeast 143 = .ok (.getfield 90, 3) := by decide +kernel
theorem dX8_makesLeast_146 : decode cX8_makesLeast 146 = .ok (.iload 8, 2) := by decide +kernel
theorem dX8_makesLeast_148 : decode cX8_makesLeast 148 = .ok (.iaload, 1) := by decide +kernel
theorem dX8_makesLeast_149 : decode cX8_makesLeast 149 = .ok (.aload_n 0, 1) := by decide +kernel
theorem dX8_makesLeast_150 : decode cX8_makesLeast 150 = .ok (.getfield 90, 3) := by decide +kernel
theorem dX8_makesLeast_153 : decode cX8_makesLeast 153 = .ok (.iload 6, 2) := by decide +kernel
theorem dX8_makesLeast_155 : decode cX8_makesLeast 155 = .ok (.iaload, 1) := by decide +kernel
theorem dX8_makesLeast_156 : decode cX8_makesLeast 156 = .ok (.if_icmp .eq 7, 3) := by decide +kernel
theorem dX8_makesLeast_159 : decode cX8_makesLeast 159 = .ok (.iconst 1, 1) := by decide +kernel
theorem dX8_makesLeast_160 : decode cX8_makesLeast 160 = .ok (.goto 4, 3) := by decide +kernel
theorem dX8_makesLeast_163 : decode cX8_makesLeast 163 = .ok (.iconst 0, 1) := by decide +kernel
theorem dX8_makesLeast_164 : decode cX8_makesLeast 164 = .ok (.istore 7, 2) := by decide +kernel
theorem dX8_makesLeast_166 : decode cX8_makesLeast 166 = .ok (.iinc 8 1, 3) := by decide +kernel
theorem dX8_makesLeast_169 : decode cX8_makesLeast 169 = .ok (.goto (-39), 3) := by decide +kernel
theorem dX8_makesLeast_172 : decode cX8_makesLeast 172 = .ok (.iconst 0, 1) := by decide +kernel
theorem dX8_makesLeast_173 : decode cX8_makesLeast 173 = .ok (.istore 8, 2) := by decide +kernel
theorem dX8_makesLeast_175 : decode cX8_makesLeast 175 = .ok (.iload 8, 2) := by decide +kernel
theorem dX8_makesLeast_177 : decode cX8_makesLeast 177 = .ok (.bipush 8, 2) := by decide +kernel
theorem dX8_makesLeast_179 : decode cX8_makesLeast 179 = .ok (.if_icmp .ge 65, 3) := by decide +kernel
theorem dX8_makesLeast_182 : decode cX8_makesLeast 182 = .ok (.iload 7, 2) := by decide +kernel
theorem dX8_makesLeast_184 : decode cX8_makesLeast 184 = .ok (.ifCond .eq 60, 3) := by decide +kernel
theorem dX8_makesLeast_187 : decode cX8_makesLeast 187 = .ok (.aload_n 0, 1) := by decide +kernel
theorem dX8_makesLeast_188 : decode cX8_makesLeast 188 = .ok (.getfield 81, 3) := by decide +kernel
theorem dX8_makesLeast_191 : decode cX8_makesLeast 191 = .ok (.bipush 8, 2) := by decide +kernel
theorem dX8_makesLeast_193 : decode cX8_makesLeast 193 = .ok (.iload 6, 2) := by decide +kernel
theorem dX8_makesLeast_195 : decode cX8_makesLeast 195 = .ok (.imul, 1) := by decide +kernel
theorem dX8_makesLeast_196 : decode cX8_makesLeast 196 = .ok (.iload 8, 2) := by decide +kernel
theorem dX8_makesLeast_198 : decode cX8_makesLeast 198 = .ok (.iadd, 1) := by decide +kernel
theorem dX8_makesLeast_199 : decode cX8_makesLeast 199 = .ok (.iaload, 1) := by decide +kernel
theorem dX8_makesLeast_200 : decode cX8_makesLeast 200 = .ok (.iconst (-1), 1) := by decide +kernel
theorem dX8_makesLeast_201 : decode cX8_makesLeast 201 = .ok (.if_icmp .eq 37, 3) := by decide +kernel
theorem dX8_makesLeast_204 : decode cX8_makesLeast 204 = .ok (.aload_n 0, 1) := by decide +kernel
theorem dX8_makesLeast_205 : decode cX8_makesLeast 205 = .ok (.aload_n 0, 1) := by decide +kernel
theorem dX8_makesLeast_206 : decode cX8_makesLeast 206 = .ok (.getfield 90, 3) := by decide +kernel
theorem dX8_makesLeast_209 : decode cX8_makesLeast 209 = .ok (.iload 6, 2) := by decide +kernel
theorem dX8_makesLeast_211 : decode cX8_makesLeast 211 = .ok (.iaload, 1) := by decide +kernel
theorem dX8_makesLeast_212 : decode cX8_makesLeast 212 = .ok (.iload 8, 2) := by decide +kernel
theorem dX8_makesLeast_214 : decode cX8_makesLeast 214 = .ok (.iload 8, 2) := by decide +kernel
theorem dX8_makesLeast_216 : decode cX8_makesLeast 216 = .ok (.iconst 0, 1) := by decide +kernel
theorem dX8_makesLeast_217 : decode cX8_makesLeast 217 = .ok (.aload_n 0, 1) := by decide +kernel
theorem dX8_makesLeast_218 : decode cX8_makesLeast 218 = .ok (.getfield 90, 3) := by decide +kernel
theorem dX8_makesLeast_221 : decode cX8_makesLeast 221 = .ok (.aload_n 0, 1) := by decide +kernel
theorem dX8_makesLeast_222 : decode cX8_makesLeast 222 = .ok (.getfield 81, 3) := by decide +kernel
theorem dX8_makesLeast_225 : decode cX8_makesLeast 225 = .ok (.bipush 8, 2) := by decide +kernel
theorem dX8_makesLeast_227 : decode cX8_makesLeast 227 = .ok (.iload 6, 2) := by decide +kernel
theorem dX8_makesLeast_229 : decode cX8_makesLeast 229 = .ok (.imul, 1) := by decide +kernel
theorem dX8_makesLeast_230 : decode cX8_makesLeast 230 = .ok (.iload 8, 2) := by decide +kernel
theorem dX8_makesLeast_232 : decode cX8_makesLeast 232 = .ok (.iadd, 1) := by decide +kernel
theorem dX8_makesLeast_233 : decode cX8_makesLeast 233 = .ok (.iaload, 1) := by decide +kernel
theorem dX8_makesLeast_234 : decode cX8_makesLeast 234 = .ok (.iaload, 1) := by decide +kernel
theorem dX8_makesLeast_235 : decode cX8_makesLeast 235 = .ok (.invokevirtual 180, 3) := by decide +kernel
theorem dX8_makesLeast_238 : decode cX8_makesLeast 238 = .ok (.iinc 8 1, 3) := by decide +kernel
theorem dX8_makesLeast_241 : decode cX8_makesLeast 241 = .ok (.goto (-66), 3) := by decide +kernel
theorem dX8_makesLeast_244 : decode cX8_makesLeast 244 = .ok (.iinc 6 1, 3) := by decide +kernel
theorem dX8_makesLeast_247 : decode cX8_makesLeast 247 = .ok (.goto (-153), 3) := by decide +kernel
theorem dX8_makesLeast_250 : decode cX8_makesLeast 250 = .ok (.aload_n 0, 1) := by decide +kernel
theorem dX8_makesLeast_251 : decode cX8_makesLeast 251 = .ok (.aload_n 0, 1) := by decide +kernel
theorem dX8_makesLeast_252 : decode cX8_makesLeast 252 = .ok (.getfield 90, 3) := by decide +kernel
theorem dX8_makesLeast_255 : decode cX8_makesLeast 255 = .ok (.iconst 0, 1) := by decide +kernel
theorem dX8_makesLeast_256 : decode cX8_makesLeast 256 = .ok (.iaload, 1) := by decide +kernel
theorem dX8_makesLeast_257 : decode cX8_makesLeast 257 = .ok (.invokevirtual 191, 3) := by decide +kernel
theorem dX8_makesLeast_260 : decode cX8_makesLeast 260 = .ok (.ireturn, 1) := by decide +kernel
set_option maxRecDepth 20000 in
theorem ggX8_least_X8_isMachine : GoodIn wsX8_least wsX8_isMachine := goodIn_r _ [5, 6, 7, 8, 4, 9, 136, 137, 138, 139, 140, 141, 142, 143, 144, 145, 146, 147, 148, 149, 150, 151, 152, 153, 154, 155, 156, 157, 158, 159, 160, 161, 162, 163, 164, 165, 166, 167, 168, 169, 170, 171, 172, 173, 174, 175, 176, 177, 178, 179, 180, 181, 182] (by decide +kernel) (by decide +kernel)
set_option maxRecDepth 20000 in
theorem gX8_least_X8_isMachine : GoodIn wsX8_least (wsV RX8 204 RX8 yX8_isMachine wsX8_isMachine) := goodIn_app (goodIn_of _ (by decide +kernel)) ggX8_least_X8_isMachine
set_option maxRecDepth 20000 in
theorem ggX8_least_X8_isThere : GoodIn wsX8_least wsX8_isThere := goodIn_r _ [13, 6, 136, 137, 138, 139, 140, 141, 142, 143, 144, 145, 146, 147, 148, 149, 150, 151, 152, 153, 154, 155, 156, 157, 158, 159, 160, 161, 162, 163, 164, 165, 166, 167, 168, 169, 170, 171, 172, 173, 174, 175, 176, 177, 178, 179, 180, 181, 182] (by decide +kernel) (by decide +kernel)
set_option maxRecDepth 20000 in
theorem gX8_least_X8_isThere : GoodIn wsX8_least (wsV RX8 184 RX8 yX8_isThere wsX8_isThere) := goodIn_app (goodIn_of _ (by decide +kernel)) ggX8_least_X8_isThere
set_option maxRecDepth 20000 in
theorem ggX8_least_X8_isPlainOf : GoodIn wsX8_least wsX8_isPlainOf := goodIn_r _ [17, 18, 19, 20, 21, 136, 137, 138, 139, 140, 141, 142, 143, 144, 145, 146, 147, 148, 149, 150, 151, 152, 153, 154, 155, 156, 157, 158, 159, 160, 161, 162, 163, 164, 165, 166, 167, 168, 169, 170, 171, 172, 173, 174, 175, 176, 177, 178, 179, 180, 181, 182] (by decide +kernel) (by decide +kernel)
set_option maxRecDepth 20000 in
theorem gX8_least_X8_isPlainOf : GoodIn wsX8_least (wsV RX8 263 RX8 yX8_isPlainOf wsX8_isPlainOf) := goodIn_app (goodIn_of _ (by decide +kernel)) ggX8_least_X8_isPlainOf
set_option maxRecDepth 20000 in
theorem ggX8_least_X8_makesLeast : GoodIn wsX8_least wsX8_makesLeast := goodIn_r _ [25, 26, 27, 28, 29, 30, 31, 32, 4, 33, 34, 35, 36, 37, 38, 39, 18, 19, 40, 41, 42, 43, 44, 45, 46, 47, 48, 49, 50, 51, 52, 53, 54, 55, 56, 57, 58, 59, 60, 61, 62, 63, 64, 65, 66, 67, 68, 69, 70, 71, 72, 73, 74, 75, 76, 77, 78, 79, 80, 81, 82, 83, 84, 85, 86, 87, 88, 89, 90, 91, 92, 93, 94, 95, 96, 97, 98, 99, 100, 101, 102, 103, 104, 105, 106, 107, 108, 109, 110, 111, 112, 113, 114, 115, 116, 117, 136, 137, 138, 139, 140, 141, 142, 143, 144, 145, 146, 147, 148, 149, 150, 151, 152, 153, 154, 155, 156, 157, 158, 159, 160, 161, 162, 163, 164, 165, 166, 167, 168, 169, 170, 171, 172, 173, 174, 175, 176, 177, 178, 179, 180, 181, 182] (by decide +kernel) (by decide +kernel)
set_option maxRecDepth 20000 in
theorem gX8_least_X8_makesLeast : GoodIn wsX8_least (wsV RX8 266 RX8 yX8_makesLeast wsX8_makesLeast) := goodIn_app (goodIn_of _ (by decide +kernel)) ggX8_least_X8_makesLeast
set_option maxRecDepth 20000 in
theorem ggX8_least_X8_isFine : GoodIn wsX8_least wsX8_isFine := goodIn_r _ [121, 122, 136, 137, 138, 139, 140, 141, 142, 143, 144, 145, 146, 147, 148, 149, 150, 151, 152, 153, 154, 155, 156, 157, 158, 159, 160, 161, 162, 163, 164, 165, 166, 167, 168, 169, 170, 171, 172, 173, 174, 175, 176, 177, 178, 179, 180, 181, 182] (by decide +kernel) (by decide +kernel)
set_option maxRecDepth 20000 in
theorem gX8_least_X8_isFine : GoodIn wsX8_least (wsV RX8 138 RX8 yX8_isFine wsX8_isFine) := goodIn_app (goodIn_of _ (by decide +kernel)) ggX8_least_X8_isFine
set_option maxRecDepth 20000 in
theorem ggX8_least_X8_keeps : GoodIn wsX8_least wsX8_keeps := goodIn_r _ [126, 90, 6, 127, 89, 59, 98, 18, 40, 93, 19, 94, 20, 95, 21, 96, 41, 97, 128, 129, 130, 4, 131, 132, 133, 134, 135, 136, 137, 138, 139, 140, 141, 142, 143, 144, 145, 146, 147, 148, 149, 150, 151, 152, 153, 154, 155, 156, 157, 158, 159, 160, 161, 162, 163, 164, 165, 166, 167, 168, 169, 170, 171, 172, 173, 174, 175, 176, 177, 178, 179, 180, 181, 182] (by decide +kernel) (by decide +kernel)
set_option maxRecDepth 20000 in
theorem gX8_least_X8_keeps : GoodIn wsX8_least (wsV RX8 194 RX8 yX8_keeps wsX8_keeps) := goodIn_app (goodIn_of _ (by decide +kernel)) ggX8_least_X8_keeps
theorem dX8_least_0 : decode cX8_least 0 = .ok (.aload_n 0, 1) := by decide +kernel
theorem dX8_least_1 : decode cX8_least 1 = .ok (.iload_n 1, 1) := by decide +kernel
theorem dX8_least_2 : decode cX8_least 2 = .ok (.invokevirtual 204, 3) := by decide +kernel
theorem dX8_least_5 : decode cX8_least 5 = .ok (.istore_n 2, 1) := by decide +kernel
theorem dX8_least_6 : decode cX8_least 6 = .ok (.aload_n 0, 1) := by decide +kernel
theorem dX8_least_7 : decode cX8_least 7 = .ok (.iload_n 2, 1) := by decide +kernel
theorem dX8_least_8 : decode cX8_least 8 = .ok (.ifCond .ne 7, 3) := by decide +kernel
theorem dX8_least_11 : decode cX8_least 11 = .ok (.iconst 1, 1) := by decide +kernel
theorem dX8_least_12 : decode cX8_least 12 = .ok (.goto 33, 3) := by decide +kernel
theorem dX8_least_15 : decode cX8_least 15 = .ok (.aload_n 0, 1) := by decide +kernel
theorem dX8_least_16 : decode cX8_least 16 = .ok (.invokevirtual 184, 3) := by decide +kernel
theorem dX8_least_19 : decode cX8_least 19 = .ok (.ifCond .eq 21, 3) := by decide +kernel
theorem dX8_least_22 : decode cX8_least 22 = .ok (.aload_n 0, 1) := by decide +kernel
theorem dX8_least_23 : decode cX8_least 23 = .ok (.iload_n 1, 1) := by decide +kernel
theorem dX8_least_24 : decode cX8_least 24 = .ok (.invokevirtual 263, 3) := by decide +kernel
theorem dX8_least_27 : decode cX8_least 27 = .ok (.ifCond .eq 13, 3) := by decide +kernel
theorem dX8_least_30 : decode cX8_least 30 = .ok (.aload_n 0, 1) := by decide +kernel
theorem dX8_least_31 : decode cX8_least 31 = .ok (.iload_n 1, 1) := by decide +kernel
theorem dX8_least_32 : decode cX8_least 32 = .ok (.iload_n 1, 1) := by decide +kernel
theorem dX8_least_33 : decode cX8_least 33 = .ok (.iconst 0, 1) := by decide +kernel
theorem dX8_least_34 : decode cX8_least 34 = .ok (.invokevirtual 266, 3) := by decide +kernel
theorem dX8_least_37 : decode cX8_least 37 = .ok (.ifCond .ne 7, 3) := by decide +kernel
theorem dX8_least_40 : decode cX8_least 40 = .ok (.iconst 2, 1) := by decide +kernel
theorem dX8_least_41 : decode cX8_least 41 = .ok (.goto 4, 3) := by decide +kernel
theorem dX8_least_44 : decode cX8_least 44 = .ok (.iconst 0, 1) := by decide +kernel
theorem dX8_least_45 : decode cX8_least 45 = .ok (.invokevirtual 138, 3) := by decide +kernel
theorem dX8_least_48 : decode cX8_least 48 = .ok (.ifCond .ne 5, 3) := by decide +kernel
theorem dX8_least_51 : decode cX8_least 51 = .ok (.iconst 0, 1) := by decide +kernel
theorem dX8_least_52 : decode cX8_least 52 = .ok (.ireturn, 1) := by decide +kernel
theorem dX8_least_53 : decode cX8_least 53 = .ok (.aload_n 0, 1) := by decide +kernel
theorem dX8_least_54 : decode cX8_least 54 = .ok (.invokevirtual 194, 3) := by decide +kernel
theorem dX8_least_57 : decode cX8_least 57 = .ok (.ireturn, 1) := by decide +kernel
set_option maxRecDepth 20000 in
theorem ggX8_meet_X8_isMachine : GoodIn wsX8_meet wsX8_isMachine := goodIn_r _ [5, 6, 7, 8, 4, 9, 136, 137, 138, 139, 140, 141, 142, 143, 144, 145, 146, 147, 148, 149, 150, 151, 152, 153, 154, 155, 156, 157, 158, 159, 160, 161, 162, 163, 164, 165, 166, 167, 168, 169, 170, 171, 172, 173, 174, 175, 176, 177, 178, 179, 180, 181, 182] (by decide +kernel) (by decide +kernel)
set_option maxRecDepth 20000 in
theorem gX8_meet_X8_isMachine : GoodIn wsX8_meet (wsV RX8 204 RX8 yX8_isMachine wsX8_isMachine) := goodIn_app (goodIn_of _ (by decide +kernel)) ggX8_meet_X8_isMachine
set_option maxRecDepth 20000 in
theorem ggX8_meet_X8_isThere : GoodIn wsX8_meet wsX8_isThere := goodIn_r _ [13, 6, 136, 137, 138, 139, 140, 141, 142, 143, 144, 145, 146, 147, 148, 149, 150, 151, 152, 153, 154, 155, 156, 157, 158, 159, 160, 161, 162, 163, 164, 165, 166, 167, 168, 169, 170, 171, 172, 173, 174, 175, 176, 177, 178, 179, 180, 181, 182] (by decide +kernel) (by decide +kernel)
set_option maxRecDepth 20000 in
theorem gX8_meet_X8_isThere : GoodIn wsX8_meet (wsV RX8 184 RX8 yX8_isThere wsX8_isThere) := goodIn_app (goodIn_of _ (by decide +kernel)) ggX8_meet_X8_isThere
set_option maxRecDepth 20000 in
theorem ggX8_meet_X8_isPlainOf : GoodIn wsX8_meet wsX8_isPlainOf := goodIn_r _ [17, 18, 19, 20, 21, 136, 137, 138, 139, 140, 141, 142, 143, 144, 145, 146, 147, 148, 149, 150, 151, 152, 153, 154, 155, 156, 157, 158, 159, 160, 161, 162, 163, 164, 165, 166, 167, 168, 169, 170, 171, 172, 173, 174, 175, 176, 177, 178, 179, 180, 181, 182] (by decide +kernel) (by decide +kernel)
set_option maxRecDepth 20000 in
theorem gX8_meet_X8_isPlainOf : GoodIn wsX8_meet (wsV RX8 263 RX8 yX8_isPlainOf wsX8_isPlainOf) := goodIn_app (goodIn_of _ (by decide +kernel)) ggX8_meet_X8_isPlainOf
set_option maxRecDepth 20000 in
theorem ggX8_meet_X8_makesLeast : GoodIn wsX8_meet wsX8_makesLeast := goodIn_r _ [25, 26, 27, 28, 29, 30, 31, 32, 4, 33, 34, 35, 36, 37, 38, 39, 18, 19, 40, 41, 42, 43, 44, 45, 46, 47, 48, 49, 50, 51, 52, 53, 54, 55, 56, 57, 58, 59, 60, 61, 62, 63, 64, 65, 66, 67, 68, 69, 70, 71, 72, 73, 74, 75, 76, 77, 78, 79, 80, 81, 82, 83, 84, 85, 86, 87, 88, 89, 90, 91, 92, 93, 94, 95, 96, 97, 98, 99, 100, 101, 102, 103, 104, 105, 106, 107, 108, 109, 110, 111, 112, 113, 114, 115, 116, 117, 136, 137, 138, 139, 140, 141, 142, 143, 144, 145, 146, 147, 148, 149, 150, 151, 152, 153, 154, 155, 156, 157, 158, 159, 160, 161, 162, 163, 164, 165, 166, 167, 168, 169, 170, 171, 172, 173, 174, 175, 176, 177, 178, 179, 180, 181, 182] (by decide +kernel) (by decide +kernel)
set_option maxRecDepth 20000 in
theorem gX8_meet_X8_makesLeast : GoodIn wsX8_meet (wsV RX8 266 RX8 yX8_makesLeast wsX8_makesLeast) := goodIn_app (goodIn_of _ (by decide +kernel)) ggX8_meet_X8_makesLeast
set_option maxRecDepth 20000 in
theorem ggX8_meet_X8_isFine : GoodIn wsX8_meet wsX8_isFine := goodIn_r _ [121, 122, 136, 137, 138, 139, 140, 141, 142, 143, 144, 145, 146, 147, 148, 149, 150, 151, 152, 153, 154, 155, 156, 157, 158, 159, 160, 161, 162, 163, 164, 165, 166, 167, 168, 169, 170, 171, 172, 173, 174, 175, 176, 177, 178, 179, 180, 181, 182] (by decide +kernel) (by decide +kernel)
set_option maxRecDepth 20000 in
theorem gX8_meet_X8_isFine : GoodIn wsX8_meet (wsV RX8 138 RX8 yX8_isFine wsX8_isFine) := goodIn_app (goodIn_of _ (by decide +kernel)) ggX8_meet_X8_isFine
set_option maxRecDepth 20000 in
theorem ggX8_meet_X8_keeps : GoodIn wsX8_meet wsX8_keeps := goodIn_r _ [126, 90, 6, 127, 89, 59, 98, 18, 40, 93, 19, 94, 20, 95, 21, 96, 41, 97, 128, 129, 130, 4, 131, 132, 133, 134, 135, 136, 137, 138, 139, 140, 141, 142, 143, 144, 145, 146, 147, 148, 149, 150, 151, 152, 153, 154, 155, 156, 157, 158, 159, 160, 161, 162, 163, 164, 165, 166, 167, 168, 169, 170, 171, 172, 173, 174, 175, 176, 177, 178, 179, 180, 181, 182] (by decide +kernel) (by decide +kernel)
set_option maxRecDepth 20000 in
theorem gX8_meet_X8_keeps : GoodIn wsX8_meet (wsV RX8 194 RX8 yX8_keeps wsX8_keeps) := goodIn_app (goodIn_of _ (by decide +kernel)) ggX8_meet_X8_keeps
theorem dX8_meet_0 : decode cX8_meet 0 = .ok (.aload_n 0, 1) := by decide +kernel
theorem dX8_meet_1 : decode cX8_meet 1 = .ok (.iload_n 1, 1) := by decide +kernel
theorem dX8_meet_2 : decode cX8_meet 2 = .ok (.invokevirtual 204, 3) := by decide +kernel
theorem dX8_meet_5 : decode cX8_meet 5 = .ok (.ifCond .eq 15, 3) := by decide +kernel
theorem dX8_meet_8 : decode cX8_meet 8 = .ok (.aload_n 0, 1) := by decide +kernel
theorem dX8_meet_9 : decode cX8_meet 9 = .ok (.iload_n 2, 1) := by decide +kernel
theorem dX8_meet_10 : decode cX8_meet 10 = .ok (.invokevirtual 204, 3) := by decide +kernel
theorem dX8_meet_13 : decode cX8_meet 13 = .ok (.ifCond .eq 7, 3) := by decide +kernel
theorem dX8_meet_16 : decode cX8_meet 16 = .ok (.iconst 1, 1) := by decide +kernel
theorem dX8_meet_17 : decode cX8_meet 17 = .ok (.goto 4, 3) := by decide +kernel
theorem dX8_meet_20 : decode cX8_meet 20 = .ok (.iconst 0, 1) := by decide +kernel
theorem dX8_meet_21 : decode cX8_meet 21 = .ok (.istore 4, 2) := by decide +kernel
theorem dX8_meet_23 : decode cX8_meet 23 = .ok (.iload 4, 2) := by decide +kernel
theorem dX8_meet_25 : decode cX8_meet 25 = .ok (.ifCond .eq 30, 3) := by decide +kernel
theorem dX8_meet_28 : decode cX8_meet 28 = .ok (.aload_n 0, 1) := by decide +kernel
theorem dX8_meet_29 : decode cX8_meet 29 = .ok (.invokevirtual 184, 3) := by decide +kernel
theorem dX8_meet_32 : decode cX8_meet 32 = .ok (.ifCond .eq 23, 3) := by decide +kernel
theorem dX8_meet_35 : decode cX8_meet 35 = .ok (.aload_n 0, 1) := by decide +kernel
theorem dX8_meet_36 : decode cX8_meet 36 = .ok (.iload_n 1, 1) := by decide +kernel
theorem dX8_meet_37 : decode cX8_meet 37 = .ok (.invokevirtual 263, 3) := by decide +kernel
theorem dX8_meet_40 : decode cX8_meet 40 = .ok (.ifCond .eq 15, 3) := by decide +kernel
theorem dX8_meet_43 : decode cX8_meet 43 = .ok (.aload_n 0, 1) := by decide +kernel
theorem dX8_meet_44 : decode cX8_meet 44 = .ok (.iload_n 2, 1) := by decide +kernel
theorem dX8_meet_45 : decode cX8_meet 45 = .ok (.invokevirtual 263, 3) := by decide +kernel
theorem dX8_meet_48 : decode cX8_meet 48 = .ok (.ifCond .eq 7, 3) := by decide +kernel
theorem dX8_meet_51 : decode cX8_meet 51 = .ok (.iconst 1, 1) := by decide +kernel
theorem dX8_meet_52 : decode cX8_meet 52 = .ok (.goto 4, 3) := by decide +kernel
theorem dX8_meet_55 : decode cX8_meet 55 = .ok (.iconst 0, 1) := by decide +kernel
theorem dX8_meet_56 : decode cX8_meet 56 = .ok (.istore 5, 2) := by decide +kernel
theorem dX8_meet_58 : decode cX8_meet 58 = .ok (.aload_n 0, 1) := by decide +kernel
theorem dX8_meet_59 : decode cX8_meet 59 = .ok (.iload 4, 2) := by decide +kernel
theorem dX8_meet_61 : decode cX8_meet 61 = .ok (.ifCond .ne 7, 3) := by decide +kernel
theorem dX8_meet_64 : decode cX8_meet 64 = .ok (.iconst 1, 1) := by decide +kernel
theorem dX8_meet_65 : decode cX8_meet 65 = .ok (.goto 31, 3) := by decide +kernel
theorem dX8_meet_68 : decode cX8_meet 68 = .ok (.iload 5, 2) := by decide +kernel
theorem dX8_meet_70 : decode cX8_meet 70 = .ok (.ifCond .eq 21, 3) := by decide +kernel
theorem dX8_meet_73 : decode cX8_meet 73 = .ok (.aload_n 0, 1) := by decide +kernel
theorem dX8_meet_74 : decode cX8_meet 74 = .ok (.iload_n 1, 1) := by decide +kernel
theorem dX8_meet_75 : decode cX8_meet 75 = .ok (.iload_n 2, 1) := by decide +kernel
theorem dX8_meet_76 : decode cX8_meet 76 = .ok (.iload_n 3, 1) := by decide +kernel
theorem dX8_meet_77 : decode cX8_meet 77 = .ok (.ifCond .eq 7, 3) := by decide +kernel
theorem dX8_meet_80 : decode cX8_meet 80 = .ok (.iconst 1, 1) := by decide +kernel
theorem dX8_meet_81 : decode cX8_meet 81 = .ok (.goto 4, 3) := by decide +kernel
theorem dX8_meet_84 : decode cX8_meet 84 = .ok (.iconst 2, 1) := by decide +kernel
theorem dX8_meet_85 : decode cX8_meet 85 = .ok (.invokevirtual 266, 3) := by decide +kernel
theorem dX8_meet_88 : decode cX8_meet 88 = .ok (.ifCond .ne 7, 3) := by decide +kernel
theorem dX8_meet_91 : decode cX8_meet 91 = .ok (.iconst 2, 1) := by decide +kernel
theorem dX8_meet_92 : decode cX8_meet 92 = .ok (.goto 4, 3) := by decide +kernel
theorem dX8_meet_95 : decode cX8_meet 95 = .ok (.iconst 0, 1) := by decide +kernel
theorem dX8_meet_96 : decode cX8_meet 96 = .ok (.invokevirtual 138, 3) := by decide +kernel
theorem dX8_meet_99 : decode cX8_meet 99 = .ok (.ifCond .ne 5, 3) := by decide +kernel
theorem dX8_meet_102 : decode cX8_meet 102 = .ok (.iconst 0, 1) := by decide +kernel
theorem dX8_meet_103 : decode cX8_meet 103 = .ok (.ireturn, 1) := by decide +kernel
theorem dX8_meet_104 : decode cX8_meet 104 = .ok (.aload_n 0, 1) := by decide +kernel
theorem dX8_meet_105 : decode cX8_meet 105 = .ok (.invokevirtual 194, 3) := by decide +kernel
theorem dX8_meet_108 : decode cX8_meet 108 = .ok (.ireturn, 1) := by decide +kernel
set_option maxRecDepth 20000 in
theorem ggX8_isRule_X8_isIn : GoodIn wsX8_isRule wsX8_isIn := goodIn_r _ [4] (by decide +kernel) (by decide +kernel)
set_option maxRecDepth 20000 in
theorem gX8_isRule_X8_isIn : GoodIn wsX8_isRule (va_wsS RX8 131 yX8_isIn wsX8_isIn) := goodIn_app (goodIn_of _ (by decide +kernel)) ggX8_isRule_X8_isIn
theorem dX8_isRule_0 : decode cX8_isRule 0 = .ok (.iload_n 0, 1) := by decide +kernel
theorem dX8_isRule_1 : decode cX8_isRule 1 = .ok (.iconst 0, 1) := by decide +kernel
theorem dX8_isRule_2 : decode cX8_isRule 2 = .ok (.bipush 7, 2) := by decide +kernel
theorem dX8_isRule_4 : decode cX8_isRule 4 = .ok (.invokestatic 131, 3) := by decide +kernel
theorem dX8_isRule_7 : decode cX8_isRule 7 = .ok (.ifCond .eq 37, 3) := by decide +kernel
theorem dX8_isRule_10 : decode cX8_isRule 10 = .ok (.iload_n 1, 1) := by decide +kernel
theorem dX8_isRule_11 : decode cX8_isRule 11 = .ok (.iconst 0, 1) := by decide +kernel
theorem dX8_isRule_12 : decode cX8_isRule 12 = .ok (.bipush 8, 2) := by decide +kernel
theorem dX8_isRule_14 : decode cX8_isRule 14 = .ok (.invokestatic 131, 3) := by decide +kernel
theorem dX8_isRule_17 : decode cX8_isRule 17 = .ok (.ifCond .eq 27, 3) := by decide +kernel
theorem dX8_isRule_20 : decode cX8_isRule 20 = .ok (.iload_n 2, 1) := by decide +kernel
theorem dX8_isRule_21 : decode cX8_isRule 21 = .ok (.iconst (-1), 1) := by decide +kernel
theorem dX8_isRule_22 : decode cX8_isRule 22 = .ok (.bipush 7, 2) := by decide +kernel
theorem dX8_isRule_24 : decode cX8_isRule 24 = .ok (.invokestatic 131, 3) := by decide +kernel
theorem dX8_isRule_27 : decode cX8_isRule 27 = .ok (.ifCond .eq 17, 3) := by decide +kernel
theorem dX8_isRule_30 : decode cX8_isRule 30 = .ok (.iload_n 3, 1) := by decide +kernel
theorem dX8_isRule_31 : decode cX8_isRule 31 = .ok (.iconst (-1), 1) := by decide +kernel
theorem dX8_isRule_32 : decode cX8_isRule 32 = .ok (.bipush 7, 2) := by decide +kernel
theorem dX8_isRule_34 : decode cX8_isRule 34 = .ok (.invokestatic 131, 3) := by decide +kernel
theorem dX8_isRule_37 : decode cX8_isRule 37 = .ok (.ifCond .eq 7, 3) := by decide +kernel
theorem dX8_isRule_40 : decode cX8_isRule 40 = .ok (.iconst 1, 1) := by decide +kernel
theorem dX8_isRule_41 : decode cX8_isRule 41 = .ok (.goto 4, 3) := by decide +kernel
theorem dX8_isRule_44 : decode cX8_isRule 44 = .ok (.iconst 0, 1) := by decide +kernel
theorem dX8_isRule_45 : decode cX8_isRule 45 = .ok (.ireturn, 1) := by decide +kernel
set_option maxRecDepth 20000 in
theorem ggX8_rulesOne_X8_adds : GoodIn wsX8_rulesOne wsX8_adds := goodIn_r _ [5, 6, 7, 8, 9, 10, 11, 12, 13, 14, 15, 16, 17, 18, 19, 20, 21, 22, 23, 24, 25, 26, 27, 28, 29, 30, 31, 32, 33, 34, 35, 36, 37, 38, 39, 40, 41, 42, 43, 44, 45, 46, 47, 48, 49, 50, 51, 52, 53, 54, 55] (by decide +kernel) (by decide +kernel)
set_option maxRecDepth 20000 in
theorem gX8_rulesOne_X8_adds : GoodIn wsX8_rulesOne (wsV RX8 180 RX8 yX8_adds wsX8_adds) := goodIn_app (goodIn_of _ (by decide +kernel)) ggX8_rulesOne_X8_adds
theorem dX8_rulesOne_0 : decode cX8_rulesOne 0 = .ok (.iconst 3, 1) := by decide +kernel
theorem dX8_rulesOne_1 : decode cX8_rulesOne 1 = .ok (.iload_n 1, 1) := by decide +kernel
theorem dX8_rulesOne_2 : decode cX8_rulesOne 2 = .ok (.imul, 1) := by decide +kernel
theorem dX8_rulesOne_3 : decode cX8_rulesOne 3 = .ok (.iload_n 2, 1) := by decide +kernel
theorem dX8_rulesOne_4 : decode cX8_rulesOne 4 = .ok (.iadd, 1) := by decide +kernel
theorem dX8_rulesOne_5 : decode cX8_rulesOne 5 = .ok (.istore 9, 2) := by decide +kernel
theorem dX8_rulesOne_7 : decode cX8_rulesOne 7 = .ok (.iconst 3, 1) := by decide +kernel
theorem dX8_rulesOne_8 : decode cX8_rulesOne 8 = .ok (.iload 6, 2) := by decide +kernel
theorem dX8_rulesOne_10 : decode cX8_rulesOne 10 = .ok (.iconst (-1), 1) := by decide +kernel
theorem dX8_rulesOne_11 : decode cX8_rulesOne 11 = .ok (.if_icmp .eq 9, 3) := by decide +kernel
theorem dX8_rulesOne_14 : decode cX8_rulesOne 14 = .ok (.iload_n 3, 1) := by decide +kernel
theorem dX8_rulesOne_15 : decode cX8_rulesOne 15 = .ok (.iload 6, 2) := by decide +kernel
theorem dX8_rulesOne_17 : decode cX8_rulesOne 17 = .ok (.if_icmp .ne 7, 3) := by decide +kernel
theorem dX8_rulesOne_20 : decode cX8_rulesOne 20 = .ok (.iconst 1, 1) := by decide +kernel
theorem dX8_rulesOne_21 : decode cX8_rulesOne 21 = .ok (.goto 4, 3) := by decide +kernel
theorem dX8_rulesOne_24 : decode cX8_rulesOne 24 = .ok (.iconst 0, 1) := by decide +kernel
theorem dX8_rulesOne_25 : decode cX8_rulesOne 25 = .ok (.imul, 1) := by decide +kernel
theorem dX8_rulesOne_26 : decode cX8_rulesOne 26 = .ok (.istore 10, 2) := by decide +kernel
theorem dX8_rulesOne_28 : decode cX8_rulesOne 28 = .ok (.iload_n 3, 1) := by decide +kernel
theorem dX8_rulesOne_29 : decode cX8_rulesOne 29 = .ok (.iload 4, 2) := by decide +kernel
theorem dX8_rulesOne_31 : decode cX8_rulesOne 31 = .ok (.if_icmp .ne 7, 3) := by decide +kernel
theorem dX8_rulesOne_34 : decode cX8_rulesOne 34 = .ok (.iload_n 1, 1) := by decide +kernel
theorem dX8_rulesOne_35 : decode cX8_rulesOne 35 = .ok (.ifCond .ne 15, 3) := by decide +kernel
theorem dX8_rulesOne_38 : decode cX8_rulesOne 38 = .ok (.aload_n 0, 1) := by decide +kernel
theorem dX8_rulesOne_39 : decode cX8_rulesOne 39 = .ok (.iload 9, 2) := by decide +kernel
theorem dX8_rulesOne_41 : decode cX8_rulesOne 41 = .ok (.iload_n 3, 1) := by decide +kernel
theorem dX8_rulesOne_42 : decode cX8_rulesOne 42 = .ok (.iload_n 3, 1) := by decide +kernel
theorem dX8_rulesOne_43 : decode cX8_rulesOne 43 = .ok (.iconst 0, 1) := by decide +kernel
theorem dX8_rulesOne_44 : decode cX8_rulesOne 44 = .ok (.iload 10, 2) := by decide +kernel
theorem dX8_rulesOne_46 : decode cX8_rulesOne 46 = .ok (.invokevirtual 180, 3) := by decide +kernel
theorem dX8_rulesOne_49 : decode cX8_rulesOne 49 = .ok (.return_, 1) := by decide +kernel
theorem dX8_rulesOne_50 : decode cX8_rulesOne 50 = .ok (.aload_n 0, 1) := by decide +kernel
theorem dX8_rulesOne_51 : decode cX8_rulesOne 51 = .ok (.iload 9, 2) := by decide +kernel
theorem dX8_rulesOne_53 : decode cX8_rulesOne 53 = .ok (.iload_n 3, 1) := by decide +kernel
theorem dX8_rulesOne_54 : decode cX8_rulesOne 54 = .ok (.iload 5, 2) := by decide +kernel
theorem dX8_rulesOne_56 : decode cX8_rulesOne 56 = .ok (.iconst 0, 1) := by decide +kernel
theorem dX8_rulesOne_57 : decode cX8_rulesOne 57 = .ok (.iload 10, 2) := by decide +kernel
theorem dX8_rulesOne_59 : decode cX8_rulesOne 59 = .ok (.iload 7, 2) := by decide +kernel
theorem dX8_rulesOne_61 : decode cX8_rulesOne 61 = .ok (.iconst (-1), 1) := by decide +kernel
theorem dX8_rulesOne_62 : decode cX8_rulesOne 62 = .ok (.if_icmp .ne 7, 3) := by decide +kernel
theorem dX8_rulesOne_65 : decode cX8_rulesOne 65 = .ok (.iconst 0, 1) := by decide +kernel
theorem dX8_rulesOne_66 : decode cX8_rulesOne 66 = .ok (.goto 4, 3) := by decide +kernel
theorem dX8_rulesOne_69 : decode cX8_rulesOne 69 = .ok (.iconst 1, 1) := by decide +kernel
theorem dX8_rulesOne_70 : decode cX8_rulesOne 70 = .ok (.iadd, 1) := by decide +kernel
theorem dX8_rulesOne_71 : decode cX8_rulesOne 71 = .ok (.invokevirtual 180, 3) := by decide +kernel
theorem dX8_rulesOne_74 : decode cX8_rulesOne 74 = .ok (.iload 7, 2) := by decide +kernel
theorem dX8_rulesOne_76 : decode cX8_rulesOne 76 = .ok (.iconst (-1), 1) := by decide +kernel
theorem dX8_rulesOne_77 : decode cX8_rulesOne 77 = .ok (.if_icmp .eq 16, 3) := by decide +kernel
theorem dX8_rulesOne_80 : decode cX8_rulesOne 80 = .ok (.aload_n 0, 1) := by decide +kernel
theorem dX8_rulesOne_81 : decode cX8_rulesOne 81 = .ok (.iload 9, 2) := by decide +kernel
theorem dX8_rulesOne_83 : decode cX8_rulesOne 83 = .ok (.iload_n 3, 1) := by decide +kernel
theorem dX8_rulesOne_84 : decode cX8_rulesOne 84 = .ok (.iload_n 3, 1) := by decide +kernel
theorem dX8_rulesOne_85 : decode cX8_rulesOne 85 = .ok (.iconst 0, 1) := by decide +kernel
theorem dX8_rulesOne_86 : decode cX8_rulesOne 86 = .ok (.iload 10, 2) := by decide +kernel
theorem dX8_rulesOne_88 : decode cX8_rulesOne 88 = .ok (.iconst 2, 1) := by decide +kernel
theorem dX8_rulesOne_89 : decode cX8_rulesOne 89 = .ok (.iadd, 1) := by decide +kernel
theorem dX8_rulesOne_90 : decode cX8_rulesOne 90 = .ok (.invokevirtual 180, 3) := by decide +kernel
theorem dX8_rulesOne_93 : decode cX8_rulesOne 93 = .ok (.iload 8, 2) := by decide +kernel
theorem dX8_rulesOne_95 : decode cX8_rulesOne 95 = .ok (.ifCond .eq 14, 3) := by decide +kernel
theorem dX8_rulesOne_98 : decode cX8_rulesOne 98 = .ok (.aload_n 0, 1) := by decide +kernel
theorem dX8_rulesOne_99 : decode cX8_rulesOne 99 = .ok (.iload 9, 2) := by decide +kernel
theorem dX8_rulesOne_101 : decode cX8_rulesOne 101 = .ok (.iload_n 3, 1) := by decide +kernel
theorem dX8_rulesOne_102 : decode cX8_rulesOne 102 = .ok (.iload_n 3, 1) := by decide +kernel
theorem dX8_rulesOne_103 : decode cX8_rulesOne 103 = .ok (.iconst 0, 1) := by decide +kernel
theorem dX8_rulesOne_104 : decode cX8_rulesOne 104 = .ok (.iload 10, 2) := by decide +kernel
theorem dX8_rulesOne_106 : decode cX8_rulesOne 106 = .ok (.invokevirtual 180, 3) := by decide +kernel
theorem dX8_rulesOne_109 : decode cX8_rulesOne 109 = .ok (.return_, 1) := by decide +kernel
set_option maxRecDepth 20000 in
theorem ggX8_rules_X8_begins : GoodIn wsX8_rules wsX8_begins := goodIn_r _ [6, 7, 1, 52, 53, 54, 55, 56, 57, 58, 59, 60, 61, 62, 63, 64, 65, 66, 67, 68, 69, 70, 71, 72, 73, 74, 75, 76, 77, 78, 79, 80, 81, 82, 83, 84, 85, 86, 87, 88, 89, 90, 91, 92, 93, 94, 95, 96, 97, 98] (by decide +kernel) (by decide +kernel)
set_option maxRecDepth 20000 in
theorem gX8_rules_X8_begins : GoodIn wsX8_rules (wsV RX8 188 RX8 yX8_begins wsX8_begins) := goodIn_app (goodIn_of _ (by decide +kernel)) ggX8_rules_X8_begins
set_option maxRecDepth 20000 in
theorem ggX8_rules_X8_rulesOne : GoodIn wsX8_rules wsX8_rulesOne := goodIn_r _ [11, 12, 13, 14, 5, 15, 16, 7, 17, 52, 53, 54, 55, 56, 57, 58, 59, 60, 61, 62, 63, 64, 65, 66, 67, 68, 69, 70, 71, 72, 73, 74, 75, 76, 77, 78, 79, 80, 81, 82, 83, 84, 85, 86, 87, 88, 89, 90, 91, 92, 93, 94, 95, 96, 97, 98] (by decide +kernel) (by decide +kernel)
set_option maxRecDepth 20000 in
theorem gX8_rules_X8_rulesOne : GoodIn wsX8_rules (wsV RX8 269 RX8 yX8_rulesOne wsX8_rulesOne) := goodIn_app (goodIn_of _ (by decide +kernel)) ggX8_rules_X8_rulesOne
set_option maxRecDepth 20000 in
theorem ggX8_rules_X8_trims : GoodIn wsX8_rules wsX8_trims := goodIn_r _ [21, 22, 23, 24, 25, 26, 16, 27, 28, 29, 30, 17, 31, 32, 1, 33, 34, 35, 5, 36, 37, 7, 38, 39, 40, 41, 42, 43, 44, 45, 46, 47, 48, 49, 50, 51, 52, 53, 54, 55, 56, 57, 58, 59, 60, 61, 62, 63, 64, 65, 66, 67, 68, 69, 70, 71, 72, 73, 74, 75, 76, 77, 78, 79, 80, 81, 82, 83, 84, 85, 86, 87, 88, 89, 90, 91, 92, 93, 94, 95, 96, 97, 98] (by decide +kernel) (by decide +kernel)
set_option maxRecDepth 20000 in
theorem gX8_rules_X8_trims : GoodIn wsX8_rules (wsV RX8 191 RX8 yX8_trims wsX8_trims) := goodIn_app (goodIn_of _ (by decide +kernel)) ggX8_rules_X8_trims
theorem dX8_rules_0 : decode cX8_rules 0 = .ok (.aload_n 0, 1) := by decide +kernel
theorem dX8_rules_1 : decode cX8_rules 1 = .ok (.invokevirtual 188, 3) := by decide +kernel
theorem dX8_rules_4 : decode cX8_rules 4 = .ok (.iconst 0, 1) := by decide +kernel
theorem dX8_rules_5 : decode cX8_rules 5 = .ok (.istore 6, 2) := by decide +kernel
theorem dX8_rules_7 : decode cX8_rules 7 = .ok (.iload 6, 2) := by decide +kernel
theorem dX8_rules_9 : decode cX8_rules 9 = .ok (.bipush 6, 2) := by decide +kernel
theorem dX8_rules_11 : decode cX8_rules 11 = .ok (.if_icmp .ge 101, 3) := by decide +kernel
theorem dX8_rules_14 : decode cX8_rules 14 = .ok (.aload_n 0, 1) := by decide +kernel
theorem dX8_rules_15 : decode cX8_rules 15 = .ok (.getfield 44, 3) := by decide +kernel
theorem dX8_rules_18 : decode cX8_rules 18 = .ok (.iload 6, 2) := by decide +kernel
theorem dX8_rules_20 : decode cX8_rules 20 = .ok (.iload 6, 2) := by decide +kernel
theorem dX8_rules_22 : decode cX8_rules 22 = .ok (.iconst 3, 1) := by decide +kernel
theorem dX8_rules_23 : decode cX8_rules 23 = .ok (.irem, 1) := by decide +kernel
theorem dX8_rules_24 : decode cX8_rules 24 = .ok (.iconst 1, 1) := by decide +kernel
theorem dX8_rules_25 : decode cX8_rules 25 = .ok (.if_icmp .eq 7, 3) := by decide +kernel
theorem dX8_rules_28 : decode cX8_rules 28 = .ok (.iconst 1, 1) := by decide +kernel
theorem dX8_rules_29 : decode cX8_rules 29 = .ok (.goto 4, 3) := by decide +kernel
theorem dX8_rules_32 : decode cX8_rules 32 = .ok (.iconst 0, 1) := by decide +kernel
theorem dX8_rules_33 : decode cX8_rules 33 = .ok (.bastore, 1) := by decide +kernel
theorem dX8_rules_34 : decode cX8_rules 34 = .ok (.iconst 0, 1) := by decide +kernel
theorem dX8_rules_35 : decode cX8_rules 35 = .ok (.istore 7, 2) := by decide +kernel
theorem dX8_rules_37 : decode cX8_rules 37 = .ok (.iload 7, 2) := by decide +kernel
theorem dX8_rules_39 : decode cX8_rules 39 = .ok (.bipush 8, 2) := by decide +kernel
theorem dX8_rules_41 : decode cX8_rules 41 = .ok (.if_icmp .ge 65, 3) := by decide +kernel
theorem dX8_rules_44 : decode cX8_rules 44 = .ok (.iload 6, 2) := by decide +kernel
theorem dX8_rules_46 : decode cX8_rules 46 = .ok (.iconst 3, 1) := by decide +kernel
theorem dX8_rules_47 : decode cX8_rules 47 = .ok (.irem, 1) := by decide +kernel
theorem dX8_rules_48 : decode cX8_rules 48 = .ok (.ifCond .eq 31, 3) := by decide +kernel
theorem dX8_rules_51 : decode cX8_rules 51 = .ok (.iload 7, 2) := by decide +kernel
theorem dX8_rules_53 : decode cX8_rules 53 = .ok (.iload 4, 2) := by decide +kernel
theorem dX8_rules_55 : decode cX8_rules 55 = .ok (.if_icmp .ne 7, 3) := by decide +kernel
theorem dX8_rules_58 : decode cX8_rules 58 = .ok (.iconst 1, 1) := by decide +kernel
theorem dX8_rules_59 : decode cX8_rules 59 = .ok (.goto 4, 3) := by decide +kernel
theorem dX8_rules_62 : decode cX8_rules 62 = .ok (.iconst 0, 1) := by decide +kernel
theorem dX8_rules_63 : decode cX8_rules 63 = .ok (.iload 6, 2) := by decide +kernel
theorem dX8_rules_65 : decode cX8_rules 65 = .ok (.iconst 3, 1) := by decide +kernel
theorem dX8_rules_66 : decode cX8_rules 66 = .ok (.irem, 1) := by decide +kernel
theorem dX8_rules_67 : decode cX8_rules 67 = .ok (.iconst 1, 1) := by decide +kernel
theorem dX8_rules_68 : decode cX8_rules 68 = .ok (.if_icmp .ne 7, 3) := by decide +kernel
theorem dX8_rules_71 : decode cX8_rules 71 = .ok (.iconst 1, 1) := by decide +kernel
theorem dX8_rules_72 : decode cX8_rules 72 = .ok (.goto 4, 3) := by decide +kernel
theorem dX8_rules_75 : decode cX8_rules 75 = .ok (.iconst 0, 1) := by decide +kernel
theorem dX8_rules_76 : decode cX8_rules 76 = .ok (.if_icmp .ne 24, 3) := by decide +kernel
theorem dX8_rules_79 : decode cX8_rules 79 = .ok (.aload_n 0, 1) := by decide +kernel
theorem dX8_rules_80 : decode cX8_rules 80 = .ok (.iload 6, 2) := by decide +kernel
theorem dX8_rules_82 : decode cX8_rules 82 = .ok (.iconst 3, 1) := by decide +kernel
theorem dX8_rules_83 : decode cX8_rules 83 = .ok (.idiv, 1) := by decide +kernel
theorem dX8_rules_84 : decode cX8_rules 84 = .ok (.iload 6, 2) := by decide +kernel
theorem dX8_rules_86 : decode cX8_rules 86 = .ok (.iconst 3, 1) := by decide +kernel
theorem dX8_rules_87 : decode cX8_rules 87 = .ok (.irem, 1) := by decide +kernel
theorem dX8_rules_88 : decode cX8_rules 88 = .ok (.iload 7, 2) := by decide +kernel
theorem dX8_rules_90 : decode cX8_rules 90 = .ok (.iload_n 1, 1) := by decide +kernel
theorem dX8_rules_91 : decode cX8_rules 91 = .ok (.iload_n 2, 1) := by decide +kernel
theorem dX8_rules_92 : decode cX8_rules 92 = .ok (.iload_n 3, 1) := by decide +kernel
theorem dX8_rules_93 : decode cX8_rules 93 = .ok (.iload 4, 2) := by decide +kernel
theorem dX8_rules_95 : decode cX8_rules 95 = .ok (.iload 5, 2) := by decide +kernel
theorem dX8_rules_97 : decode cX8_rules 97 = .ok (.invokevirtual 269, 3) := by decide +kernel
theorem dX8_rules_100 : decode cX8_rules 100 = .ok (.iinc 7 1, 3) := by decide +kernel
theorem dX8_rules_103 : decode cX8_rules 103 = .ok (.goto (-66), 3) := by decide +kernel
theorem dX8_rules_106 : decode cX8_rules 106 = .ok (.iinc 6 1, 3) := by decide +kernel
theorem dX8_rules_109 : decode cX8_rules 109 = .ok (.goto (-102), 3) := by decide +kernel
theorem dX8_rules_112 : decode cX8_rules 112 = .ok (.aload_n 0, 1) := by decide +kernel
theorem dX8_rules_113 : decode cX8_rules 113 = .ok (.iload_n 3, 1) := by decide +kernel
theorem dX8_rules_114 : decode cX8_rules 114 = .ok (.iconst (-1), 1) := by decide +kernel
theorem dX8_rules_115 : decode cX8_rules 115 = .ok (.if_icmp .ne 7, 3) := by decide +kernel
theorem dX8_rules_118 : decode cX8_rules 118 = .ok (.iconst 3, 1) := by decide +kernel
theorem dX8_rules_119 : decode cX8_rules 119 = .ok (.goto 4, 3) := by decide +kernel
theorem dX8_rules_122 : decode cX8_rules 122 = .ok (.iconst 0, 1) := by decide +kernel
theorem dX8_rules_123 : decode cX8_rules 123 = .ok (.invokevirtual 191, 3) := by decide +kernel
theorem dX8_rules_126 : decode cX8_rules 126 = .ok (.ireturn, 1) := by decide +kernel
set_option maxRecDepth 20000 in
theorem ggX8_rule_X8_isRule : GoodIn wsX8_rule wsX8_isRule := goodIn_r _ [4, 5, 6, 3, 7] (by decide +kernel) (by decide +kernel)
set_option maxRecDepth 20000 in
theorem gX8_rule_X8_isRule : GoodIn wsX8_rule (va_wsS RX8 273 yX8_isRule wsX8_isRule) := goodIn_app (goodIn_of _ (by decide +kernel)) ggX8_rule_X8_isRule
set_option maxRecDepth 20000 in
theorem ggX8_rule_X8_isThere : GoodIn wsX8_rule wsX8_isThere := goodIn_r _ [11, 12, 92, 93, 94, 95, 96, 97, 98, 99, 100, 101, 102, 103, 104, 105, 106, 107, 108, 109, 110, 111, 112, 113, 114, 115, 116, 117, 118, 119, 120, 121, 122, 123, 124, 125, 126, 127, 128, 129, 130, 131, 132, 133, 134, 135, 136, 137, 138] (by decide +kernel) (by decide +kernel)
set_option maxRecDepth 20000 in
theorem gX8_rule_X8_isThere : GoodIn wsX8_rule (wsV RX8 184 RX8 yX8_isThere wsX8_isThere) := goodIn_app (goodIn_of _ (by decide +kernel)) ggX8_rule_X8_isThere
set_option maxRecDepth 20000 in
theorem ggX8_rule_X8_rules : GoodIn wsX8_rule wsX8_rules := goodIn_r _ [16, 17, 18, 19, 20, 3, 21, 22, 23, 24, 25, 26, 27, 28, 29, 30, 31, 32, 33, 34, 35, 36, 37, 38, 39, 40, 41, 42, 43, 44, 45, 46, 47, 48, 49, 50, 51, 52, 53, 54, 55, 56, 57, 58, 59, 60, 61, 62, 63, 64, 65, 66, 92, 93, 94, 95, 96, 97, 98, 99, 100, 101, 102, 103, 104, 105, 106, 107, 108, 109, 110, 111, 112, 113, 114, 115, 116, 117, 118, 119, 120, 121, 122, 123, 124, 125, 126, 127, 128, 129, 130, 131, 132, 133, 134, 135, 136, 137, 138] (by decide +kernel) (by decide +kernel)
set_option maxRecDepth 20000 in
theorem gX8_rule_X8_rules : GoodIn wsX8_rule (wsV RX8 276 RX8 yX8_rules wsX8_rules) := goodIn_app (goodIn_of _ (by decide +kernel)) ggX8_rule_X8_rules
set_option maxRecDepth 20000 in
theorem ggX8_rule_X8_isFine : GoodIn wsX8_rule wsX8_isFine := goodIn_r _ [70, 71, 92, 93, 94, 95, 96, 97, 98, 99, 100, 101, 102, 103, 104, 105, 106, 107, 108, 109, 110, 111, 112, 113, 114, 115, 116, 117, 118, 119, 120, 121, 122, 123, 124, 125, 126, 127, 128, 129, 130, 131, 132, 133, 134, 135, 136, 137, 138] (by decide +kernel) (by decide +kernel)
set_option maxRecDepth 20000 in
theorem gX8_rule_X8_isFine : GoodIn wsX8_rule (wsV RX8 138 RX8 yX8_isFine wsX8_isFine) := goodIn_app (goodIn_of _ (by decide +kernel)) ggX8_rule_X8_isFine
set_option maxRecDepth 20000 in
theorem ggX8_rule_X8_keeps : GoodIn wsX8_rule wsX8_keeps := goodIn_r _ [75, 39, 12, 76, 38, 77, 47, 78, 79, 42, 80, 43, 81, 44, 82, 45, 83, 46, 84, 85, 86, 3, 87, 88, 89, 90, 91, 92, 93, 94, 95, 96, 97, 98, 99, 100, 101, 102, 103, 104, 105, 106, 107, 108, 109, 110, 111, 112, 113, 114, 115, 116, 117, 118, 119, 120, 121, 122, 123, 124, 125, 126, 127, 128, 129, 130, 131, 132, 133, 134, 135, 136, 137, 138] (by decide +kernel) (by decide +kernel)
set_option maxRecDepth 20000 in
theorem gX8_rule_X8_keeps : GoodIn wsX8_rule (wsV RX8 194 RX8 yX8_keeps wsX8_keeps) := goodIn_app (goodIn_of _ (by decide +kernel)) ggX8_rule_X8_keeps
theorem dX8_rule_0 : decode cX8_rule 0 = .ok (.iload_n 1, 1) := by decide +kernel
theorem dX8_rule_1 : decode cX8_rule 1 = .ok (.iload_n 2, 1) := by decide +kernel
theorem dX8_rule_2 : decode cX8_rule 2 = .ok (.iload_n 3, 1) := by decide +kernel
theorem dX8_rule_3 : decode cX8_rule 3 = .ok (.iload 4, 2) := by decide +kernel
theorem dX8_rule_5 : decode cX8_rule 5 = .ok (.invokestatic 273, 3) := by decide +kernel
theorem dX8_rule_8 : decode cX8_rule 8 = .ok (.istore 6, 2) := by decide +kernel
theorem dX8_rule_10 : decode cX8_rule 10 = .ok (.iload_n 2, 1) := by decide +kernel
theorem dX8_rule_11 : decode cX8_rule 11 = .ok (.bipush 8, 2) := by decide +kernel
theorem dX8_rule_13 : decode cX8_rule 13 = .ok (.if_icmp .ne 29, 3) := by decide +kernel
theorem dX8_rule_16 : decode cX8_rule 16 = .ok (.iload_n 3, 1) := by decide +kernel
theorem dX8_rule_17 : decode cX8_rule 17 = .ok (.iconst (-1), 1) := by decide +kernel
theorem dX8_rule_18 : decode cX8_rule 18 = .ok (.if_icmp .eq 8, 3) := by decide +kernel
theorem dX8_rule_21 : decode cX8_rule 21 = .ok (.iload_n 3, 1) := by decide +kernel
theorem dX8_rule_22 : decode cX8_rule 22 = .ok (.iload_n 1, 1) := by decide +kernel
theorem dX8_rule_23 : decode cX8_rule 23 = .ok (.if_icmp .ne 19, 3) := by decide +kernel
theorem dX8_rule_26 : decode cX8_rule 26 = .ok (.iload 4, 2) := by decide +kernel
theorem dX8_rule_28 : decode cX8_rule 28 = .ok (.iconst (-1), 1) := by decide +kernel
theorem dX8_rule_29 : decode cX8_rule 29 = .ok (.if_icmp .eq 9, 3) := by decide +kernel
theorem dX8_rule_32 : decode cX8_rule 32 = .ok (.iload 4, 2) := by decide +kernel
theorem dX8_rule_34 : decode cX8_rule 34 = .ok (.iload_n 1, 1) := by decide +kernel
theorem dX8_rule_35 : decode cX8_rule 35 = .ok (.if_icmp .ne 7, 3) := by decide +kernel
theorem dX8_rule_38 : decode cX8_rule 38 = .ok (.iconst 1, 1) := by decide +kernel
theorem dX8_rule_39 : decode cX8_rule 39 = .ok (.goto 4, 3) := by decide +kernel
theorem dX8_rule_42 : decode cX8_rule 42 = .ok (.iconst 0, 1) := by decide +kernel
theorem dX8_rule_43 : decode cX8_rule 43 = .ok (.istore 7, 2) := by decide +kernel
theorem dX8_rule_45 : decode cX8_rule 45 = .ok (.aload_n 0, 1) := by decide +kernel
theorem dX8_rule_46 : decode cX8_rule 46 = .ok (.iload 6, 2) := by decide +kernel
theorem dX8_rule_48 : decode cX8_rule 48 = .ok (.ifCond .ne 7, 3) := by decide +kernel
theorem dX8_rule_51 : decode cX8_rule 51 = .ok (.iconst 1, 1) := by decide +kernel
theorem dX8_rule_52 : decode cX8_rule 52 = .ok (.goto 34, 3) := by decide +kernel
theorem dX8_rule_55 : decode cX8_rule 55 = .ok (.aload_n 0, 1) := by decide +kernel
theorem dX8_rule_56 : decode cX8_rule 56 = .ok (.invokevirtual 184, 3) := by decide +kernel
theorem dX8_rule_59 : decode cX8_rule 59 = .ok (.ifCond .eq 22, 3) := by decide +kernel
theorem dX8_rule_62 : decode cX8_rule 62 = .ok (.iload 7, 2) := by decide +kernel
theorem dX8_rule_64 : decode cX8_rule 64 = .ok (.ifCond .ne 17, 3) := by decide +kernel
theorem dX8_rule_67 : decode cX8_rule 67 = .ok (.aload_n 0, 1) := by decide +kernel
theorem dX8_rule_68 : decode cX8_rule 68 = .ok (.iload_n 1, 1) := by decide +kernel
theorem dX8_rule_69 : decode cX8_rule 69 = .ok (.iload_n 2, 1) := by decide +kernel
theorem dX8_rule_70 : decode cX8_rule 70 = .ok (.iload_n 3, 1) := by decide +kernel
theorem dX8_rule_71 : decode cX8_rule 71 = .ok (.iload 4, 2) := by decide +kernel
theorem dX8_rule_73 : decode cX8_rule 73 = .ok (.iload 5, 2) := by decide +kernel
theorem dX8_rule_75 : decode cX8_rule 75 = .ok (.invokevirtual 276, 3) := by decide +kernel
theorem dX8_rule_78 : decode cX8_rule 78 = .ok (.ifCond .ne 7, 3) := by decide +kernel
theorem dX8_rule_81 : decode cX8_rule 81 = .ok (.iconst 2, 1) := by decide +kernel
theorem dX8_rule_82 : decode cX8_rule 82 = .ok (.goto 4, 3) := by decide +kernel
theorem dX8_rule_85 : decode cX8_rule 85 = .ok (.iconst 0, 1) := by decide +kernel
theorem dX8_rule_86 : decode cX8_rule 86 = .ok (.invokevirtual 138, 3) := by decide +kernel
theorem dX8_rule_89 : decode cX8_rule 89 = .ok (.ifCond .ne 5, 3) := by decide +kernel
theorem dX8_rule_92 : decode cX8_rule 92 = .ok (.iconst 0, 1) := by decide +kernel
theorem dX8_rule_93 : decode cX8_rule 93 = .ok (.ireturn, 1) := by decide +kernel
theorem dX8_rule_94 : decode cX8_rule 94 = .ok (.aload_n 0, 1) := by decide +kernel
theorem dX8_rule_95 : decode cX8_rule 95 = .ok (.invokevirtual 194, 3) := by decide +kernel
theorem dX8_rule_98 : decode cX8_rule 98 = .ok (.ireturn, 1) := by decide +kernel
set_option maxRecDepth 20000 in
theorem ggX8_size_X8_isMachine : GoodIn wsX8_size wsX8_isMachine := goodIn_r _ [7, 8, 9, 10, 6, 11, 17, 18, 19, 20, 21, 22, 23, 24, 25, 26, 27, 28, 29, 30, 31, 32, 33, 34, 35, 36, 37, 38, 39, 40, 41, 42, 43, 44, 45, 46, 47, 48, 49, 50, 51, 52, 53, 54, 55, 56, 57, 58, 59, 60, 61, 62, 63] (by decide +kernel) (by decide +kernel)
set_option maxRecDepth 20000 in
theorem gX8_size_X8_isMachine : GoodIn wsX8_size (wsV RX8 204 RX8 yX8_isMachine wsX8_isMachine) := goodIn_app (goodIn_of _ (by decide +kernel)) ggX8_size_X8_isMachine
set_option maxRecDepth 20000 in
theorem ggX8_size_X8_isFine : GoodIn wsX8_size wsX8_isFine := goodIn_r _ [15, 16, 17, 18, 19, 20, 21, 22, 23, 24, 25, 26, 27, 28, 29, 30, 31, 32, 33, 34, 35, 36, 37, 38, 39, 40, 41, 42, 43, 44, 45, 46, 47, 48, 49, 50, 51, 52, 53, 54, 55, 56, 57, 58, 59, 60, 61, 62, 63] (by decide +kernel) (by decide +kernel)
set_option maxRecDepth 20000 in
theorem gX8_size_X8_isFine : GoodIn wsX8_size (wsV RX8 138 RX8 yX8_isFine wsX8_isFine) := goodIn_app (goodIn_of _ (by decide +kernel)) ggX8_size_X8_isFine
theorem dX8_size_0 : decode cX8_size 0 = .ok (.aload_n 0, 1) := by decide +kernel
theorem dX8_size_1 : decode cX8_size 1 = .ok (.aload_n 0, 1) := by decide +kernel
theorem dX8_size_2 : decode cX8_size 2 = .ok (.iload_n 1, 1) := by decide +kernel
theorem dX8_size_3 : decode cX8_size 3 = .ok (.invokevirtual 204, 3) := by decide +kernel
theorem dX8_size_6 : decode cX8_size 6 = .ok (.ifCond .eq 7, 3) := by decide +kernel
theorem dX8_size_9 : decode cX8_size 9 = .ok (.iconst 0, 1) := by decide +kernel
theorem dX8_size_10 : decode cX8_size 10 = .ok (.goto 4, 3) := by decide +kernel
theorem dX8_size_13 : decode cX8_size 13 = .ok (.iconst 1, 1) := by decide +kernel
theorem dX8_size_14 : decode cX8_size 14 = .ok (.invokevirtual 138, 3) := by decide +kernel
theorem dX8_size_17 : decode cX8_size 17 = .ok (.ifCond .eq 23, 3) := by decide +kernel
theorem dX8_size_20 : decode cX8_size 20 = .ok (.sipush 1000, 3) := by decide +kernel
theorem dX8_size_23 : decode cX8_size 23 = .ok (.aload_n 0, 1) := by decide +kernel
theorem dX8_size_24 : decode cX8_size 24 = .ok (.getfield 13, 3) := by decide +kernel
theorem dX8_size_27 : decode cX8_size 27 = .ok (.iload_n 1, 1) := by decide +kernel
theorem dX8_size_28 : decode cX8_size 28 = .ok (.iaload, 1) := by decide +kernel
theorem dX8_size_29 : decode cX8_size 29 = .ok (.imul, 1) := by decide +kernel
theorem dX8_size_30 : decode cX8_size 30 = .ok (.aload_n 0, 1) := by decide +kernel
theorem dX8_size_31 : decode cX8_size 31 = .ok (.getfield 19, 3) := by decide +kernel
theorem dX8_size_34 : decode cX8_size 34 = .ok (.iload_n 1, 1) := by decide +kernel
theorem dX8_size_35 : decode cX8_size 35 = .ok (.iaload, 1) := by decide +kernel
theorem dX8_size_36 : decode cX8_size 36 = .ok (.iadd, 1) := by decide +kernel
theorem dX8_size_37 : decode cX8_size 37 = .ok (.goto 4, 3) := by decide +kernel
theorem dX8_size_40 : decode cX8_size 40 = .ok (.iconst 0, 1) := by decide +kernel
theorem dX8_size_41 : decode cX8_size 41 = .ok (.ireturn, 1) := by decide +kernel
set_option maxRecDepth 20000 in
theorem ggX8_isEnd_X8_isMachine : GoodIn wsX8_isEnd wsX8_isMachine := goodIn_r _ [6, 7, 8, 9, 5, 10, 21, 22, 23, 24, 25, 26, 27, 28, 29, 30, 31, 32, 33, 34, 35, 36, 37, 38, 39, 40, 41, 42, 43, 44, 45, 46, 47, 48, 49, 50, 51, 52, 53, 54, 55, 56, 57, 58, 59, 60, 61, 62, 63, 64, 65, 66, 67] (by decide +kernel) (by decide +kernel)
set_option maxRecDepth 20000 in
theorem gX8_isEnd_X8_isMachine : GoodIn wsX8_isEnd (wsV RX8 204 RX8 yX8_isMachine wsX8_isMachine) := goodIn_app (goodIn_of _ (by decide +kernel)) ggX8_isEnd_X8_isMachine
set_option maxRecDepth 20000 in
theorem ggX8_isEnd_X8_isIn : GoodIn wsX8_isEnd wsX8_isIn := goodIn_r _ [10] (by decide +kernel) (by decide +kernel)
set_option maxRecDepth 20000 in
theorem gX8_isEnd_X8_isIn : GoodIn wsX8_isEnd (va_wsS RX8 131 yX8_isIn wsX8_isIn) := goodIn_app (goodIn_of _ (by decide +kernel)) ggX8_isEnd_X8_isIn
set_option maxRecDepth 20000 in
theorem ggX8_isEnd_X8_isFine : GoodIn wsX8_isEnd wsX8_isFine := goodIn_r _ [14, 15, 21, 22, 23, 24, 25, 26, 27, 28, 29, 30, 31, 32, 33, 34, 35, 36, 37, 38, 39, 40, 41, 42, 43, 44, 45, 46, 47, 48, 49, 50, 51, 52, 53, 54, 55, 56, 57, 58, 59, 60, 61, 62, 63, 64, 65, 66, 67] (by decide +kernel) (by decide +kernel)
set_option maxRecDepth 20000 in
theorem gX8_isEnd_X8_isFine : GoodIn wsX8_isEnd (wsV RX8 138 RX8 yX8_isFine wsX8_isFine) := goodIn_app (goodIn_of _ (by decide +kernel)) ggX8_isEnd_X8_isFine
set_option maxRecDepth 20000 in
theorem ggX8_isEnd_X8_isEndOf : GoodIn wsX8_isEnd wsX8_isEndOf := goodIn_r _ [19, 20, 21, 22, 23, 24, 25, 26, 27, 28, 29, 30, 31, 32, 33, 34, 35, 36, 37, 38, 39, 40, 41, 42, 43, 44, 45, 46, 47, 48, 49, 50, 51, 52, 53, 54, 55, 56, 57, 58, 59, 60, 61, 62, 63, 64, 65, 66, 67] (by decide +kernel) (by decide +kernel)
set_option maxRecDepth 20000 in
theorem gX8_isEnd_X8_isEndOf : GoodIn wsX8_isEnd (wsV RX8 201 RX8 yX8_isEndOf wsX8_isEndOf) := goodIn_app (goodIn_of _ (by decide +kernel)) ggX8_isEnd_X8_isEndOf
theorem dX8_isEnd_0 : decode cX8_isEnd 0 = .ok (.aload_n 0, 1) := by decide +kernel
theorem dX8_isEnd_1 : decode cX8_isEnd 1 = .ok (.aload_n 0, 1) := by decide +kernel
theorem dX8_isEnd_2 : decode cX8_isEnd 2 = .ok (.iload_n 1, 1) := by decide +kernel
theorem dX8_isEnd_3 : decode cX8_isEnd 3 = .ok (.invokevirtual 204, 3) := by decide +kernel
theorem dX8_isEnd_6 : decode cX8_isEnd 6 = .ok (.ifCond .eq 23, 3) := by decide +kernel
theorem dX8_isEnd_9 : decode cX8_isEnd 9 = .ok (.iload_n 2, 1) := by decide +kernel
theorem dX8_isEnd_10 : decode cX8_isEnd 10 = .ok (.iconst 0, 1) := by decide +kernel
theorem dX8_isEnd_11 : decode cX8_isEnd 11 = .ok (.aload_n 0, 1) := by decide +kernel
theorem dX8_isEnd_12 : decode cX8_isEnd 12 = .ok (.getfield 13, 3) := by decide +kernel
theorem dX8_isEnd_15 : decode cX8_isEnd 15 = .ok (.iload_n 1, 1) := by decide +kernel
theorem dX8_isEnd_16 : decode cX8_isEnd 16 = .ok (.iaload, 1) := by decide +kernel
theorem dX8_isEnd_17 : decode cX8_isEnd 17 = .ok (.iconst 1, 1) := by decide +kernel
theorem dX8_isEnd_18 : decode cX8_isEnd 18 = .ok (.isub, 1) := by decide +kernel
theorem dX8_isEnd_19 : decode cX8_isEnd 19 = .ok (.invokestatic 131, 3) := by decide +kernel
theorem dX8_isEnd_22 : decode cX8_isEnd 22 = .ok (.ifCond .eq 7, 3) := by decide +kernel
theorem dX8_isEnd_25 : decode cX8_isEnd 25 = .ok (.iconst 0, 1) := by decide +kernel
theorem dX8_isEnd_26 : decode cX8_isEnd 26 = .ok (.goto 4, 3) := by decide +kernel
theorem dX8_isEnd_29 : decode cX8_isEnd 29 = .ok (.iconst 1, 1) := by decide +kernel
theorem dX8_isEnd_30 : decode cX8_isEnd 30 = .ok (.invokevirtual 138, 3) := by decide +kernel
theorem dX8_isEnd_33 : decode cX8_isEnd 33 = .ok (.ifCond .eq 16, 3) := by decide +kernel
theorem dX8_isEnd_36 : decode cX8_isEnd 36 = .ok (.aload_n 0, 1) := by decide +kernel
theorem dX8_isEnd_37 : decode cX8_isEnd 37 = .ok (.iload_n 1, 1) := by decide +kernel
theorem dX8_isEnd_38 : decode cX8_isEnd 38 = .ok (.iload_n 2, 1) := by decide +kernel
theorem dX8_isEnd_39 : decode cX8_isEnd 39 = .ok (.invokevirtual 201, 3) := by decide +kernel
theorem dX8_isEnd_42 : decode cX8_isEnd 42 = .ok (.ifCond .eq 7, 3) := by decide +kernel
theorem dX8_isEnd_45 : decode cX8_isEnd 45 = .ok (.iconst 1, 1) := by decide +kernel
theorem dX8_isEnd_46 : decode cX8_isEnd 46 = .ok (.goto 4, 3) := by decide +kernel
theorem dX8_isEnd_49 : decode cX8_isEnd 49 = .ok (.iconst 0, 1) := by decide +kernel
theorem dX8_isEnd_50 : decode cX8_isEnd 50 = .ok (.ireturn, 1) := by decide +kernel
set_option maxRecDepth 20000 in
theorem ggX8_arc_X8_isMachine : GoodIn wsX8_arc wsX8_isMachine := goodIn_r _ [11, 12, 13, 14, 10, 15, 21, 22, 23, 24, 25, 26, 27, 28, 29, 30, 31, 32, 33, 34, 35, 36, 37, 38, 39, 40, 41, 42, 43, 44, 45, 46, 47, 48, 49, 50, 51, 52, 53, 54, 55, 56, 57, 58, 59, 60, 61, 62, 63, 64, 65, 66, 67] (by decide +kernel) (by decide +kernel)
set_option maxRecDepth 20000 in
theorem gX8_arc_X8_isMachine : GoodIn wsX8_arc (wsV RX8 204 RX8 yX8_isMachine wsX8_isMachine) := goodIn_app (goodIn_of _ (by decide +kernel)) ggX8_arc_X8_isMachine
set_option maxRecDepth 20000 in
theorem ggX8_arc_X8_isIn : GoodIn wsX8_arc wsX8_isIn := goodIn_r _ [15] (by decide +kernel) (by decide +kernel)
set_option maxRecDepth 20000 in
theorem gX8_arc_X8_isIn : GoodIn wsX8_arc (va_wsS RX8 131 yX8_isIn wsX8_isIn) := goodIn_app (goodIn_of _ (by decide +kernel)) ggX8_arc_X8_isIn
set_option maxRecDepth 20000 in
theorem ggX8_arc_X8_isFine : GoodIn wsX8_arc wsX8_isFine := goodIn_r _ [19, 20, 21, 22, 23, 24, 25, 26, 27, 28, 29, 30, 31, 32, 33, 34, 35, 36, 37, 38, 39, 40, 41, 42, 43, 44, 45, 46, 47, 48, 49, 50, 51, 52, 53, 54, 55, 56, 57, 58, 59, 60, 61, 62, 63, 64, 65, 66, 67] (by decide +kernel) (by decide +kernel)
set_option maxRecDepth 20000 in
theorem gX8_arc_X8_isFine : GoodIn wsX8_arc (wsV RX8 138 RX8 yX8_isFine wsX8_isFine) := goodIn_app (goodIn_of _ (by decide +kernel)) ggX8_arc_X8_isFine
theorem dX8_arc_0 : decode cX8_arc 0 = .ok (.aload_n 0, 1) := by decide +kernel
theorem dX8_arc_1 : decode cX8_arc 1 = .ok (.iload_n 1, 1) := by decide +kernel
theorem dX8_arc_2 : decode cX8_arc 2 = .ok (.invokevirtual 204, 3) := by decide +kernel
theorem dX8_arc_5 : decode cX8_arc 5 = .ok (.ifCond .eq 23, 3) := by decide +kernel
theorem dX8_arc_8 : decode cX8_arc 8 = .ok (.iload_n 2, 1) := by decide +kernel
theorem dX8_arc_9 : decode cX8_arc 9 = .ok (.iconst 0, 1) := by decide +kernel
theorem dX8_arc_10 : decode cX8_arc 10 = .ok (.aload_n 0, 1) := by decide +kernel
theorem dX8_arc_11 : decode cX8_arc 11 = .ok (.getfield 19, 3) := by decide +kernel
theorem dX8_arc_14 : decode cX8_arc 14 = .ok (.iload_n 1, 1) := by decide +kernel
theorem dX8_arc_15 : decode cX8_arc 15 = .ok (.iaload, 1) := by decide +kernel
theorem dX8_arc_16 : decode cX8_arc 16 = .ok (.iconst 1, 1) := by decide +kernel
theorem dX8_arc_17 : decode cX8_arc 17 = .ok (.isub, 1) := by decide +kernel
theorem dX8_arc_18 : decode cX8_arc 18 = .ok (.invokestatic 131, 3) := by decide +kernel
theorem dX8_arc_21 : decode cX8_arc 21 = .ok (.ifCond .eq 7, 3) := by decide +kernel
theorem dX8_arc_24 : decode cX8_arc 24 = .ok (.iconst 1, 1) := by decide +kernel
theorem dX8_arc_25 : decode cX8_arc 25 = .ok (.goto 4, 3) := by decide +kernel
theorem dX8_arc_28 : decode cX8_arc 28 = .ok (.iconst 0, 1) := by decide +kernel
theorem dX8_arc_29 : decode cX8_arc 29 = .ok (.istore 4, 2) := by decide +kernel
theorem dX8_arc_31 : decode cX8_arc 31 = .ok (.aload_n 0, 1) := by decide +kernel
theorem dX8_arc_32 : decode cX8_arc 32 = .ok (.iload 4, 2) := by decide +kernel
theorem dX8_arc_34 : decode cX8_arc 34 = .ok (.ifCond .ne 7, 3) := by decide +kernel
theorem dX8_arc_37 : decode cX8_arc 37 = .ok (.iconst 1, 1) := by decide +kernel
theorem dX8_arc_38 : decode cX8_arc 38 = .ok (.goto 17, 3) := by decide +kernel
theorem dX8_arc_41 : decode cX8_arc 41 = .ok (.iload_n 3, 1) := by decide +kernel
theorem dX8_arc_42 : decode cX8_arc 42 = .ok (.iconst 0, 1) := by decide +kernel
theorem dX8_arc_43 : decode cX8_arc 43 = .ok (.iconst 4, 1) := by decide +kernel
theorem dX8_arc_44 : decode cX8_arc 44 = .ok (.invokestatic 131, 3) := by decide +kernel
theorem dX8_arc_47 : decode cX8_arc 47 = .ok (.ifCond .ne 7, 3) := by decide +kernel
theorem dX8_arc_50 : decode cX8_arc 50 = .ok (.iconst 2, 1) := by decide +kernel
theorem dX8_arc_51 : decode cX8_arc 51 = .ok (.goto 4, 3) := by decide +kernel
theorem dX8_arc_54 : decode cX8_arc 54 = .ok (.iconst 0, 1) := by decide +kernel
theorem dX8_arc_55 : decode cX8_arc 55 = .ok (.invokevirtual 138, 3) := by decide +kernel
theorem dX8_arc_58 : decode cX8_arc 58 = .ok (.ifCond .ne 5, 3) := by decide +kernel
theorem dX8_arc_61 : decode cX8_arc 61 = .ok (.iconst 0, 1) := by decide +kernel
theorem dX8_arc_62 : decode cX8_arc 62 = .ok (.ireturn, 1) := by decide +kernel
theorem dX8_arc_63 : decode cX8_arc 63 = .ok (.sipush 160, 3) := by decide +kernel
theorem dX8_arc_66 : decode cX8_arc 66 = .ok (.iload_n 1, 1) := by decide +kernel
theorem dX8_arc_67 : decode cX8_arc 67 = .ok (.imul, 1) := by decide +kernel
theorem dX8_arc_68 : decode cX8_arc 68 = .ok (.iload_n 2, 1) := by decide +kernel
theorem dX8_arc_69 : decode cX8_arc 69 = .ok (.iadd, 1) := by decide +kernel
theorem dX8_arc_70 : decode cX8_arc 70 = .ok (.istore 5, 2) := by decide +kernel
theorem dX8_arc_72 : decode cX8_arc 72 = .ok (.iload_n 3, 1) := by decide +kernel
theorem dX8_arc_73 : decode cX8_arc 73 = .ok (.ifCond .ne 13, 3) := by decide +kernel
theorem dX8_arc_76 : decode cX8_arc 76 = .ok (.aload_n 0, 1) := by decide +kernel
theorem dX8_arc_77 : decode cX8_arc 77 = .ok (.getfield 22, 3) := by decide +kernel
theorem dX8_arc_80 : decode cX8_arc 80 = .ok (.iload 5, 2) := by decide +kernel
theorem dX8_arc_82 : decode cX8_arc 82 = .ok (.iaload, 1) := by decide +kernel
theorem dX8_arc_83 : decode cX8_arc 83 = .ok (.goto 55, 3) := by decide +kernel
theorem dX8_arc_86 : decode cX8_arc 86 = .ok (.iload_n 3, 1) := by decide +kernel
theorem dX8_arc_87 : decode cX8_arc 87 = .ok (.iconst 1, 1) := by decide +kernel
theorem dX8_arc_88 : decode cX8_arc 88 = .ok (.if_icmp .ne 13, 3) := by decide +kernel
theorem dX8_arc_91 : decode cX8_arc 91 = .ok (.aload_n 0, 1) := by decide +kernel
theorem dX8_arc_92 : decode cX8_arc 92 = .ok (.getfield 25, 3) := by decide +kernel
theorem dX8_arc_95 : decode cX8_arc 95 = .ok (.iload 5, 2) := by decide +kernel
theorem dX8_arc_97 : decode cX8_arc 97 = .ok (.iaload, 1) := by decide +kernel
theorem dX8_arc_98 : decode cX8_arc 98 = .ok (.goto 40, 3) := by decide +kernel
theorem dX8_arc_101 : decode cX8_arc 101 = .ok (.iload_n 3, 1) := by decide +kernel
theorem dX8_arc_102 : decode cX8_arc 102 = .ok (.iconst 2, 1) := by decide +kernel
theorem dX8_arc_103 : decode cX8_arc 103 = .ok (.if_icmp .ne 13, 3) := by decide +kernel
theorem dX8_arc_106 : decode cX8_arc 106 = .ok (.aload_n 0, 1) := by decide +kernel
theorem dX8_arc_107 : decode cX8_arc 107 = .ok (.getfield 28, 3) := by decide +kernel
theorem dX8_arc_110 : decode cX8_arc 110 = .ok (.iload 5, 2) := by decide +kernel
theorem dX8_arc_112 : decode cX8_arc 112 = .ok (.iaload, 1) := by decide +kernel
theorem dX8_arc_113 : decode cX8_arc 113 = .ok (.goto 25, 3) := by decide +kernel
theorem dX8_arc_116 : decode cX8_arc 116 = .ok (.iload_n 3, 1) := by decide +kernel
theorem dX8_arc_117 : decode cX8_arc 117 = .ok (.iconst 3, 1) := by decide +kernel
theorem dX8_arc_118 : decode cX8_arc 118 = .ok (.if_icmp .ne 13, 3) := by decide +kernel
theorem dX8_arc_121 : decode cX8_arc 121 = .ok (.aload_n 0, 1) := by decide +kernel
theorem dX8_arc_122 : decode cX8_arc 122 = .ok (.getfield 31, 3) := by decide +kernel
theorem dX8_arc_125 : decode cX8_arc 125 = .ok (.iload 5, 2) := by decide +kernel
theorem dX8_arc_127 : decode cX8_arc 127 = .ok (.iaload, 1) := by decide +kernel
theorem dX8_arc_128 : decode cX8_arc 128 = .ok (.goto 10, 3) := by decide +kernel
theorem dX8_arc_131 : decode cX8_arc 131 = .ok (.aload_n 0, 1) := by decide +kernel
theorem dX8_arc_132 : decode cX8_arc 132 = .ok (.getfield 34, 3) := by decide +kernel
theorem dX8_arc_135 : decode cX8_arc 135 = .ok (.iload 5, 2) := by decide +kernel
theorem dX8_arc_137 : decode cX8_arc 137 = .ok (.iaload, 1) := by decide +kernel
theorem dX8_arc_138 : decode cX8_arc 138 = .ok (.ireturn, 1) := by decide +kernel
set_option maxRecDepth 20000 in
theorem ggX8_isPlain_X8_isMachine : GoodIn wsX8_isPlain wsX8_isMachine := goodIn_r _ [5, 6, 7, 8, 4, 9, 23, 24, 25, 26, 27, 28, 29, 30, 31, 32, 33, 34, 35, 36, 37, 38, 39, 40, 41, 42, 43, 44, 45, 46, 47, 48, 49, 50, 51, 52, 53, 54, 55, 56, 57, 58, 59, 60, 61, 62, 63, 64, 65, 66, 67, 68, 69] (by decide +kernel) (by decide +kernel)
set_option maxRecDepth 20000 in
theorem gX8_isPlain_X8_isMachine : GoodIn wsX8_isPlain (wsV RX8 204 RX8 yX8_isMachine wsX8_isMachine) := goodIn_app (goodIn_of _ (by decide +kernel)) ggX8_isPlain_X8_isMachine
set_option maxRecDepth 20000 in
theorem ggX8_isPlain_X8_isFine : GoodIn wsX8_isPlain wsX8_isFine := goodIn_r _ [13, 14, 23, 24, 25, 26, 27, 28, 29, 30, 31, 32, 33, 34, 35, 36, 37, 38, 39, 40, 41, 42, 43, 44, 45, 46, 47, 48, 49, 50, 51, 52, 53, 54, 55, 56, 57, 58, 59, 60, 61, 62, 63, 64, 65, 66, 67, 68, 69] (by decide +kernel) (by decide +kernel)
set_option maxRecDepth 20000 in
theorem gX8_isPlain_X8_isFine : GoodIn wsX8_isPlain (wsV RX8 138 RX8 yX8_isFine wsX8_isFine) := goodIn_app (goodIn_of _ (by decide +kernel)) ggX8_isPlain_X8_isFine
set_option maxRecDepth 20000 in
theorem ggX8_isPlain_X8_isPlainOf : GoodIn wsX8_isPlain wsX8_isPlainOf := goodIn_r _ [18, 19, 20, 21, 22, 23, 24, 25, 26, 27, 28, 29, 30, 31, 32, 33, 34, 35, 36, 37, 38, 39, 40, 41, 42, 43, 44, 45, 46, 47, 48, 49, 50, 51, 52, 53, 54, 55, 56, 57, 58, 59, 60, 61, 62, 63, 64, 65, 66, 67, 68, 69] (by decide +kernel) (by decide +kernel)
set_option maxRecDepth 20000 in
theorem gX8_isPlain_X8_isPlainOf : GoodIn wsX8_isPlain (wsV RX8 263 RX8 yX8_isPlainOf wsX8_isPlainOf) := goodIn_app (goodIn_of _ (by decide +kernel)) ggX8_isPlain_X8_isPlainOf
theorem dX8_isPlain_0 : decode cX8_isPlain 0 = .ok (.aload_n 0, 1) := by decide +kernel
theorem dX8_isPlain_1 : decode cX8_isPlain 1 = .ok (.aload_n 0, 1) := by decide +kernel
theorem dX8_isPlain_2 : decode cX8_isPlain 2 = .ok (.iload_n 1, 1) := by decide +kernel
theorem dX8_isPlain_3 : decode cX8_isPlain 3 = .ok (.invokevirtual 204, 3) := by decide +kernel
theorem dX8_isPlain_6 : decode cX8_isPlain 6 = .ok (.ifCond .eq 7, 3) := by decide +kernel
theorem dX8_isPlain_9 : decode cX8_isPlain 9 = .ok (.iconst 0, 1) := by decide +kernel
theorem dX8_isPlain_10 : decode cX8_isPlain 10 = .ok (.goto 4, 3) := by decide +kernel
theorem dX8_isPlain_13 : decode cX8_isPlain 13 = .ok (.iconst 1, 1) := by decide +kernel
theorem dX8_isPlain_14 : decode cX8_isPlain 14 = .ok (.invokevirtual 138, 3) := by decide +kernel
theorem dX8_isPlain_17 : decode cX8_isPlain 17 = .ok (.ifCond .eq 15, 3) := by decide +kernel
theorem dX8_isPlain_20 : decode cX8_isPlain 20 = .ok (.aload_n 0, 1) := by decide +kernel
theorem dX8_isPlain_21 : decode cX8_isPlain 21 = .ok (.iload_n 1, 1) := by decide +kernel
theorem dX8_isPlain_22 : decode cX8_isPlain 22 = .ok (.invokevirtual 263, 3) := by decide +kernel
theorem dX8_isPlain_25 : decode cX8_isPlain 25 = .ok (.ifCond .eq 7, 3) := by decide +kernel
theorem dX8_isPlain_28 : decode cX8_isPlain 28 = .ok (.iconst 1, 1) := by decide +kernel
theorem dX8_isPlain_29 : decode cX8_isPlain 29 = .ok (.goto 4, 3) := by decide +kernel
theorem dX8_isPlain_32 : decode cX8_isPlain 32 = .ok (.iconst 0, 1) := by decide +kernel
theorem dX8_isPlain_33 : decode cX8_isPlain 33 = .ok (.ireturn, 1) := by decide +kernel
theorem dX8_inOf_0 : decode cX8_inOf 0 = .ok (.iload_n 2, 1) := by decide +kernel
theorem dX8_inOf_1 : decode cX8_inOf 1 = .ok (.ifCond .eq 12, 3) := by decide +kernel
theorem dX8_inOf_4 : decode cX8_inOf 4 = .ok (.aload_n 0, 1) := by decide +kernel
theorem dX8_inOf_5 : decode cX8_inOf 5 = .ok (.getfield 28, 3) := by decide +kernel
theorem dX8_inOf_8 : decode cX8_inOf 8 = .ok (.iload_n 1, 1) := by decide +kernel
theorem dX8_inOf_9 : decode cX8_inOf 9 = .ok (.iaload, 1) := by decide +kernel
theorem dX8_inOf_10 : decode cX8_inOf 10 = .ok (.goto 9, 3) := by decide +kernel
theorem dX8_inOf_13 : decode cX8_inOf 13 = .ok (.aload_n 0, 1) := by decide +kernel
theorem dX8_inOf_14 : decode cX8_inOf 14 = .ok (.getfield 25, 3) := by decide +kernel
theorem dX8_inOf_17 : decode cX8_inOf 17 = .ok (.iload_n 1, 1) := by decide +kernel
theorem dX8_inOf_18 : decode cX8_inOf 18 = .ok (.iaload, 1) := by decide +kernel
theorem dX8_inOf_19 : decode cX8_inOf 19 = .ok (.ireturn, 1) := by decide +kernel
theorem dX8_outOf_0 : decode cX8_outOf 0 = .ok (.iload_n 2, 1) := by decide +kernel
theorem dX8_outOf_1 : decode cX8_outOf 1 = .ok (.ifCond .eq 12, 3) := by decide +kernel
theorem dX8_outOf_4 : decode cX8_outOf 4 = .ok (.aload_n 0, 1) := by decide +kernel
theorem dX8_outOf_5 : decode cX8_outOf 5 = .ok (.getfield 25, 3) := by decide +kernel
theorem dX8_outOf_8 : decode cX8_outOf 8 = .ok (.iload_n 1, 1) := by decide +kernel
theorem dX8_outOf_9 : decode cX8_outOf 9 = .ok (.iaload, 1) := by decide +kernel
theorem dX8_outOf_10 : decode cX8_outOf 10 = .ok (.goto 9, 3) := by decide +kernel
theorem dX8_outOf_13 : decode cX8_outOf 13 = .ok (.aload_n 0, 1) := by decide +kernel
theorem dX8_outOf_14 : decode cX8_outOf 14 = .ok (.getfield 28, 3) := by decide +kernel
theorem dX8_outOf_17 : decode cX8_outOf 17 = .ok (.iload_n 1, 1) := by decide +kernel
theorem dX8_outOf_18 : decode cX8_outOf 18 = .ok (.iaload, 1) := by decide +kernel
theorem dX8_outOf_19 : decode cX8_outOf 19 = .ok (.ireturn, 1) := by decide +kernel
set_option maxRecDepth 20000 in
theorem ggX8_behind_X8_inOf : GoodIn wsX8_behind wsX8_inOf := goodIn_r _ [7, 8, 9, 10, 11, 12, 13, 14, 15, 16, 17, 18, 19, 20, 21, 22, 23, 24, 25, 26, 27, 28, 29, 30, 31, 32, 33, 34, 35, 36, 37, 38, 39, 40, 41, 42, 43, 44, 45, 46, 47, 48, 49, 50, 51, 52, 53, 54, 55, 56] (by decide +kernel) (by decide +kernel)
set_option maxRecDepth 20000 in
theorem gX8_behind_X8_inOf : GoodIn wsX8_behind (wsV RX8 280 RX8 yX8_inOf wsX8_inOf) := goodIn_app (goodIn_of _ (by decide +kernel)) ggX8_behind_X8_inOf
theorem dX8_behind_0 : decode cX8_behind 0 = .ok (.aload_n 0, 1) := by decide +kernel
theorem dX8_behind_1 : decode cX8_behind 1 = .ok (.iload_n 1, 1) := by decide +kernel
theorem dX8_behind_2 : decode cX8_behind 2 = .ok (.iload_n 3, 1) := by decide +kernel
theorem dX8_behind_3 : decode cX8_behind 3 = .ok (.invokevirtual 280, 3) := by decide +kernel
theorem dX8_behind_6 : decode cX8_behind 6 = .ok (.istore 4, 2) := by decide +kernel
theorem dX8_behind_8 : decode cX8_behind 8 = .ok (.iload 4, 2) := by decide +kernel
theorem dX8_behind_10 : decode cX8_behind 10 = .ok (.bipush 8, 2) := by decide +kernel
theorem dX8_behind_12 : decode cX8_behind 12 = .ok (.if_icmp .ne 7, 3) := by decide +kernel
theorem dX8_behind_15 : decode cX8_behind 15 = .ok (.iload_n 2, 1) := by decide +kernel
theorem dX8_behind_16 : decode cX8_behind 16 = .ok (.goto 29, 3) := by decide +kernel
theorem dX8_behind_19 : decode cX8_behind 19 = .ok (.iload_n 2, 1) := by decide +kernel
theorem dX8_behind_20 : decode cX8_behind 20 = .ok (.aload_n 0, 1) := by decide +kernel
theorem dX8_behind_21 : decode cX8_behind 21 = .ok (.getfield 135, 3) := by decide +kernel
theorem dX8_behind_24 : decode cX8_behind 24 = .ok (.if_icmp .ge 20, 3) := by decide +kernel
theorem dX8_behind_27 : decode cX8_behind 27 = .ok (.aload_n 0, 1) := by decide +kernel
theorem dX8_behind_28 : decode cX8_behind 28 = .ok (.getfield 7, 3) := by decide +kernel
theorem dX8_behind_31 : decode cX8_behind 31 = .ok (.iload_n 2, 1) := by decide +kernel
theorem dX8_behind_32 : decode cX8_behind 32 = .ok (.iaload, 1) := by decide +kernel
theorem dX8_behind_33 : decode cX8_behind 33 = .ok (.iload 4, 2) := by decide +kernel
theorem dX8_behind_35 : decode cX8_behind 35 = .ok (.if_icmp .ne 9, 3) := by decide +kernel
theorem dX8_behind_38 : decode cX8_behind 38 = .ok (.iload_n 2, 1) := by decide +kernel
theorem dX8_behind_39 : decode cX8_behind 39 = .ok (.iconst 1, 1) := by decide +kernel
theorem dX8_behind_40 : decode cX8_behind 40 = .ok (.iadd, 1) := by decide +kernel
theorem dX8_behind_41 : decode cX8_behind 41 = .ok (.goto 4, 3) := by decide +kernel
theorem dX8_behind_44 : decode cX8_behind 44 = .ok (.iconst (-1), 1) := by decide +kernel
theorem dX8_behind_45 : decode cX8_behind 45 = .ok (.ireturn, 1) := by decide +kernel
set_option maxRecDepth 20000 in
theorem ggX8_rests_X8_isEndOf : GoodIn wsX8_rests wsX8_isEndOf := goodIn_r _ [12, 13, 25, 26, 27, 28, 29, 30, 31, 32, 33, 34, 35, 36, 37, 38, 39, 40, 41, 42, 43, 44, 45, 46, 47, 48, 49, 50, 51, 52, 53, 54, 55, 56, 57, 58, 59, 60, 61, 62, 63, 64, 65, 66, 67, 68, 69, 70, 71] (by decide +kernel) (by decide +kernel)
set_option maxRecDepth 20000 in
theorem gX8_rests_X8_isEndOf : GoodIn wsX8_rests (wsV RX8 201 RX8 yX8_isEndOf wsX8_isEndOf) := goodIn_app (goodIn_of _ (by decide +kernel)) ggX8_rests_X8_isEndOf
set_option maxRecDepth 20000 in
theorem ggX8_rests_X8_behind : GoodIn wsX8_rests wsX8_behind := goodIn_r _ [17, 2, 18, 19, 20, 21, 11, 22, 23, 24, 25, 26, 27, 28, 29, 30, 31, 32, 33, 34, 35, 36, 37, 38, 39, 40, 41, 42, 43, 44, 45, 46, 47, 48, 49, 50, 51, 52, 53, 54, 55, 56, 57, 58, 59, 60, 61, 62, 63, 64, 65, 66, 67, 68, 69, 70, 71] (by decide +kernel) (by decide +kernel)
set_option maxRecDepth 20000 in
theorem gX8_rests_X8_behind : GoodIn wsX8_rests (wsV RX8 285 RX8 yX8_behind wsX8_behind) := goodIn_app (goodIn_of _ (by decide +kernel)) ggX8_rests_X8_behind
theorem dX8_rests_0 : decode cX8_rests 0 = .ok (.iconst 0, 1) := by decide +kernel
theorem dX8_rests_1 : decode cX8_rests 1 = .ok (.istore_n 3, 1) := by decide +kernel
theorem dX8_rests_2 : decode cX8_rests 2 = .ok (.iload_n 3, 1) := by decide +kernel
theorem dX8_rests_3 : decode cX8_rests 3 = .ok (.sipush 288, 3) := by decide +kernel
theorem dX8_rests_6 : decode cX8_rests 6 = .ok (.if_icmp .ge 45, 3) := by decide +kernel
theorem dX8_rests_9 : decode cX8_rests 9 = .ok (.aload_n 0, 1) := by decide +kernel
theorem dX8_rests_10 : decode cX8_rests 10 = .ok (.getfield 96, 3) := by decide +kernel
theorem dX8_rests_13 : decode cX8_rests 13 = .ok (.iload_n 3, 1) := by decide +kernel
theorem dX8_rests_14 : decode cX8_rests 14 = .ok (.iload_n 3, 1) := by decide +kernel
theorem dX8_rests_15 : decode cX8_rests 15 = .ok (.bipush 32, 2) := by decide +kernel
theorem dX8_rests_17 : decode cX8_rests 17 = .ok (.idiv, 1) := by decide +kernel
theorem dX8_rests_18 : decode cX8_rests 18 = .ok (.aload_n 0, 1) := by decide +kernel
theorem dX8_rests_19 : decode cX8_rests 19 = .ok (.getfield 135, 3) := by decide +kernel
theorem dX8_rests_22 : decode cX8_rests 22 = .ok (.if_icmp .ne 19, 3) := by decide +kernel
theorem dX8_rests_25 : decode cX8_rests 25 = .ok (.aload_n 0, 1) := by decide +kernel
theorem dX8_rests_26 : decode cX8_rests 26 = .ok (.iload_n 1, 1) := by decide +kernel
theorem dX8_rests_27 : decode cX8_rests 27 = .ok (.iload_n 3, 1) := by decide +kernel
theorem dX8_rests_28 : decode cX8_rests 28 = .ok (.bipush 32, 2) := by decide +kernel
theorem dX8_rests_30 : decode cX8_rests 30 = .ok (.irem, 1) := by decide +kernel
theorem dX8_rests_31 : decode cX8_rests 31 = .ok (.invokevirtual 201, 3) := by decide +kernel
theorem dX8_rests_34 : decode cX8_rests 34 = .ok (.ifCond .eq 7, 3) := by decide +kernel
theorem dX8_rests_37 : decode cX8_rests 37 = .ok (.iconst 0, 1) := by decide +kernel
theorem dX8_rests_38 : decode cX8_rests 38 = .ok (.goto 6, 3) := by decide +kernel
theorem dX8_rests_41 : decode cX8_rests 41 = .ok (.ldc_w 284, 3) := by decide +kernel
theorem dX8_rests_44 : decode cX8_rests 44 = .ok (.iastore, 1) := by decide +kernel
theorem dX8_rests_45 : decode cX8_rests 45 = .ok (.iinc 3 1, 3) := by decide +kernel
theorem dX8_rests_48 : decode cX8_rests 48 = .ok (.goto (-46), 3) := by decide +kernel
theorem dX8_rests_51 : decode cX8_rests 51 = .ok (.iconst 1, 1) := by decide +kernel
theorem dX8_rests_52 : decode cX8_rests 52 = .ok (.istore_n 3, 1) := by decide +kernel
theorem dX8_rests_53 : decode cX8_rests 53 = .ok (.iload_n 3, 1) := by decide +kernel
theorem dX8_rests_54 : decode cX8_rests 54 = .ok (.ifCond .eq 228, 3) := by decide +kernel
theorem dX8_rests_57 : decode cX8_rests 57 = .ok (.iconst 0, 1) := by decide +kernel
theorem dX8_rests_58 : decode cX8_rests 58 = .ok (.istore_n 3, 1) := by decide +kernel
theorem dX8_rests_59 : decode cX8_rests 59 = .ok (.sipush 160, 3) := by decide +kernel
theorem dX8_rests_62 : decode cX8_rests 62 = .ok (.iload_n 1, 1) := by decide +kernel
theorem dX8_rests_63 : decode cX8_rests 63 = .ok (.imul, 1) := by decide +kernel
theorem dX8_rests_64 : decode cX8_rests 64 = .ok (.istore 4, 2) := by decide +kernel
theorem dX8_rests_66 : decode cX8_rests 66 = .ok (.iload 4, 2) := by decide +kernel
theorem dX8_rests_68 : decode cX8_rests 68 = .ok (.sipush 160, 3) := by decide +kernel
theorem dX8_rests_71 : decode cX8_rests 71 = .ok (.iload_n 1, 1) := by decide +kernel
theorem dX8_rests_72 : decode cX8_rests 72 = .ok (.imul, 1) := by decide +kernel
theorem dX8_rests_73 : decode cX8_rests 73 = .ok (.aload_n 0, 1) := by decide +kernel
theorem dX8_rests_74 : decode cX8_rests 74 = .ok (.getfield 19, 3) := by decide +kernel
theorem dX8_rests_77 : decode cX8_rests 77 = .ok (.iload_n 1, 1) := by decide +kernel
theorem dX8_rests_78 : decode cX8_rests 78 = .ok (.iaload, 1) := by decide +kernel
theorem dX8_rests_79 : decode cX8_rests 79 = .ok (.iadd, 1) := by decide +kernel
theorem dX8_rests_80 : decode cX8_rests 80 = .ok (.if_icmp .ge 199, 3) := by decide +kernel
theorem dX8_rests_83 : decode cX8_rests 83 = .ok (.iconst 0, 1) := by decide +kernel
theorem dX8_rests_84 : decode cX8_rests 84 = .ok (.istore 5, 2) := by decide +kernel
theorem dX8_rests_86 : decode cX8_rests 86 = .ok (.iload 5, 2) := by decide +kernel
theorem dX8_rests_88 : decode cX8_rests 88 = .ok (.aload_n 0, 1) := by decide +kernel
theorem dX8_rests_89 : decode cX8_rests 89 = .ok (.getfield 135, 3) := by decide +kernel
theorem dX8_rests_92 : decode cX8_rests 92 = .ok (.if_icmp .gt 181, 3) := by decide +kernel
theorem dX8_rests_95 : decode cX8_rests 95 = .ok (.aload_n 0, 1) := by decide +kernel
theorem dX8_rests_96 : decode cX8_rests 96 = .ok (.iload 4, 2) := by decide +kernel
theorem dX8_rests_98 : decode cX8_rests 98 = .ok (.iload 5, 2) := by decide +kernel
theorem dX8_rests_100 : decode cX8_rests 100 = .ok (.iload_n 2, 1) := by decide +kernel
theorem dX8_rests_101 : decode cX8_rests 101 = .ok (.invokevirtual 285, 3) := by decide +kernel
theorem dX8_rests_104 : decode cX8_rests 104 = .ok (.istore 6, 2) := by decide +kernel
theorem dX8_rests_106 : decode cX8_rests 106 = .ok (.iload 6, 2) := by decide +kernel
theorem dX8_rests_108 : decode cX8_rests 108 = .ok (.iconst (-1), 1) := by decide +kernel
theorem dX8_rests_109 : decode cX8_rests 109 = .ok (.if_icmp .eq 27, 3) := by decide +kernel
theorem dX8_rests_112 : decode cX8_rests 112 = .ok (.aload_n 0, 1) := by decide +kernel
theorem dX8_rests_113 : decode cX8_rests 113 = .ok (.getfield 96, 3) := by decide +kernel
theorem dX8_rests_116 : decode cX8_rests 116 = .ok (.bipush 32, 2) := by decide +kernel
theorem dX8_rests_118 : decode cX8_rests 118 = .ok (.iload 6, 2) := by decide +kernel
theorem dX8_rests_120 : decode cX8_rests 120 = .ok (.imul, 1) := by decide +kernel
theorem dX8_rests_121 : decode cX8_rests 121 = .ok (.aload_n 0, 1) := by decide +kernel
theorem dX8_rests_122 : decode cX8_rests 122 = .ok (.getfield 34, 3) := by decide +kernel
theorem dX8_rests_125 : decode cX8_rests 125 = .ok (.iload 4, 2) := by decide +kernel
theorem dX8_rests_127 : decode cX8_rests 127 = .ok (.iaload, 1) := by decide +kernel
theorem dX8_rests_128 : decode cX8_rests 128 = .ok (.iadd, 1) := by decide +kernel
theorem dX8_rests_129 : decode cX8_rests 129 = .ok (.iaload, 1) := by decide +kernel
theorem dX8_rests_130 : decode cX8_rests 130 = .ok (.ldc_w 284, 3) := by decide +kernel
theorem dX8_rests_133 : decode cX8_rests 133 = .ok (.if_icmp .ne 9, 3) := by decide +kernel
theorem dX8_rests_136 : decode cX8_rests 136 = .ok (.ldc_w 284, 3) := by decide +kernel
theorem dX8_rests_139 : decode cX8_rests 139 = .ok (.goto 29, 3) := by decide +kernel
theorem dX8_rests_142 : decode cX8_rests 142 = .ok (.aload_n 0, 1) := by decide +kernel
theorem dX8_rests_143 : decode cX8_rests 143 = .ok (.getfield 96, 3) := by decide +kernel
theorem dX8_rests_146 : decode cX8_rests 146 = .ok (.bipush 32, 2) := by decide +kernel
theorem dX8_rests_148 : decode cX8_rests 148 = .ok (.iload 6, 2) := by decide +kernel
theorem dX8_rests_150 : decode cX8_rests 150 = .ok (.imul, 1) := by decide +kernel
theorem dX8_rests_151 : decode cX8_rests 151 = .ok (.aload_n 0, 1) := by decide +kernel
theorem dX8_rests_152 : decode cX8_rests 152 = .ok (.getfield 34, 3) := by decide +kernel
theorem dX8_rests_155 : decode cX8_rests 155 = .ok (.iload 4, 2) := by decide +kernel
theorem dX8_rests_157 : decode cX8_rests 157 = .ok (.iaload, 1) := by decide +kernel
theorem dX8_rests_158 : decode cX8_rests 158 = .ok (.iadd, 1) := by decide +kernel
theorem dX8_rests_159 : decode cX8_rests 159 = .ok (.iaload, 1) := by decide +kernel
theorem dX8_rests_160 : decode cX8_rests 160 = .ok (.aload_n 0, 1) := by decide +kernel
theorem dX8_rests_161 : decode cX8_rests 161 = .ok (.getfield 31, 3) := by decide +kernel
theorem dX8_rests_164 : decode cX8_rests 164 = .ok (.iload 4, 2) := by decide +kernel
theorem dX8_rests_166 : decode cX8_rests 166 = .ok (.iaload, 1) := by decide +kernel
theorem dX8_rests_167 : decode cX8_rests 167 = .ok (.iadd, 1) := by decide +kernel
theorem dX8_rests_168 : decode cX8_rests 168 = .ok (.istore 7, 2) := by decide +kernel
theorem dX8_rests_170 : decode cX8_rests 170 = .ok (.iload_n 3, 1) := by decide +kernel
theorem dX8_rests_171 : decode cX8_rests 171 = .ok (.ifCond .ne 26, 3) := by decide +kernel
theorem dX8_rests_174 : decode cX8_rests 174 = .ok (.iload 7, 2) := by decide +kernel
theorem dX8_rests_176 : decode cX8_rests 176 = .ok (.aload_n 0, 1) := by decide +kernel
theorem dX8_rests_177 : decode cX8_rests 177 = .ok (.getfield 96, 3) := by decide +kernel
theorem dX8_rests_180 : decode cX8_rests 180 = .ok (.bipush 32, 2) := by decide +kernel
theorem dX8_rests_182 : decode cX8_rests 182 = .ok (.iload 5, 2) := by decide +kernel
theorem dX8_rests_184 : decode cX8_rests 184 = .ok (.imul, 1) := by decide +kernel
theorem dX8_rests_185 : decode cX8_rests 185 = .ok (.aload_n 0, 1) := by decide +kernel
theorem dX8_rests_186 : decode cX8_rests 186 = .ok (.getfield 22, 3) := by decide +kernel
theorem dX8_rests_189 : decode cX8_rests 189 = .ok (.iload 4, 2) := by decide +kernel
theorem dX8_rests_191 : decode cX8_rests 191 = .ok (.iaload, 1) := by decide +kernel
theorem dX8_rests_192 : decode cX8_rests 192 = .ok (.iadd, 1) := by decide +kernel
theorem dX8_rests_193 : decode cX8_rests 193 = .ok (.iaload, 1) := by decide +kernel
theorem dX8_rests_194 : decode cX8_rests 194 = .ok (.if_icmp .ge 7, 3) := by decide +kernel
theorem dX8_rests_197 : decode cX8_rests 197 = .ok (.iconst 1, 1) := by decide +kernel
theorem dX8_rests_198 : decode cX8_rests 198 = .ok (.goto 4, 3) := by decide +kernel
theorem dX8_rests_201 : decode cX8_rests 201 = .ok (.iconst 0, 1) := by decide +kernel
theorem dX8_rests_202 : decode cX8_rests 202 = .ok (.istore_n 3, 1) := by decide +kernel
theorem dX8_rests_203 : decode cX8_rests 203 = .ok (.aload_n 0, 1) := by decide +kernel
theorem dX8_rests_204 : decode cX8_rests 204 = .ok (.getfield 96, 3) := by decide +kernel
theorem dX8_rests_207 : decode cX8_rests 207 = .ok (.bipush 32, 2) := by decide +kernel
theorem dX8_rests_209 : decode cX8_rests 209 = .ok (.iload 5, 2) := by decide +kernel
theorem dX8_rests_211 : decode cX8_rests 211 = .ok (.imul, 1) := by decide +kernel
theorem dX8_rests_212 : decode cX8_rests 212 = .ok (.aload_n 0, 1) := by decide +kernel
theorem dX8_rests_213 : decode cX8_rests 213 = .ok (.getfield 22, 3) := by decide +kernel
theorem dX8_rests_216 : decode cX8_rests 216 = .ok (.iload 4, 2) := by decide +kernel
theorem dX8_rests_218 : decode cX8_rests 218 = .ok (.iaload, 1) := by decide +kernel
theorem dX8_rests_219 : decode cX8_rests 219 = .ok (.iadd, 1) := by decide +kernel
theorem dX8_rests_220 : decode cX8_rests 220 = .ok (.iload 7, 2) := by decide +kernel
theorem dX8_rests_222 : decode cX8_rests 222 = .ok (.aload_n 0, 1) := by decide +kernel
theorem dX8_rests_223 : decode cX8_rests 223 = .ok (.getfield 96, 3) := by decide +kernel
theorem dX8_rests_226 : decode cX8_rests 226 = .ok (.bipush 32, 2) := by decide +kernel
theorem dX8_rests_228 : decode cX8_rests 228 = .ok (.iload 5, 2) := by decide +kernel
theorem dX8_rests_230 : decode cX8_rests 230 = .ok (.imul, 1) := by decide +kernel
theorem dX8_rests_231 : decode cX8_rests 231 = .ok (.aload_n 0, 1) := by decide +kernel
theorem dX8_rests_232 : decode cX8_rests 232 = .ok (.getfield 22, 3) := by decide +kernel
theorem dX8_rests_235 : decode cX8_rests 235 = .ok (.iload 4, 2) := by decide +kernel
theorem dX8_rests_237 : decode cX8_rests 237 = .ok (.iaload, 1) := by decide +kernel
theorem dX8_rests_238 : decode cX8_rests 238 = .ok (.iadd, 1) := by decide +kernel
theorem dX8_rests_239 : decode cX8_rests 239 = .ok (.iaload, 1) := by decide +kernel
theorem dX8_rests_240 : decode cX8_rests 240 = .ok (.if_icmp .ge 8, 3) := by decide +kernel
theorem dX8_rests_243 : decode cX8_rests 243 = .ok (.iload 7, 2) := by decide +kernel
theorem dX8_rests_245 : decode cX8_rests 245 = .ok (.goto 21, 3) := by decide +kernel
theorem dX8_rests_248 : decode cX8_rests 248 = .ok (.aload_n 0, 1) := by decide +kernel
theorem dX8_rests_249 : decode cX8_rests 249 = .ok (.getfield 96, 3) := by decide +kernel
theorem dX8_rests_252 : decode cX8_rests 252 = .ok (.bipush 32, 2) := by decide +kernel
theorem dX8_rests_254 : decode cX8_rests 254 = .ok (.iload 5, 2) := by decide +kernel
theorem dX8_rests_256 : decode cX8_rests 256 = .ok (.imul, 1) := by decide +kernel
theorem dX8_rests_257 : decode cX8_rests 257 = .ok (.aload_n 0, 1) := by decide +kernel
theorem dX8_rests_258 : decode cX8_rests 258 = .ok (.getfield 22, 3) := by decide +kernel
theorem dX8_rests_261 : decode cX8_rests 261 = .ok (.iload 4, 2) := by decide +kernel
theorem dX8_rests_263 : decode cX8_rests 263 = .ok (.iaload, 1) := by decide +kernel
theorem dX8_rests_264 : decode cX8_rests 264 = .ok (.iadd, 1) := by decide +kernel
theorem dX8_rests_265 : decode cX8_rests 265 = .ok (.iaload, 1) := by decide +kernel
theorem dX8_rests_266 : decode cX8_rests 266 = .ok (.iastore, 1) := by decide +kernel
theorem dX8_rests_267 : decode cX8_rests 267 = .ok (.iinc 5 1, 3) := by decide +kernel
theorem dX8_rests_270 : decode cX8_rests 270 = .ok (.goto (-184), 3) := by decide +kernel
theorem dX8_rests_273 : decode cX8_rests 273 = .ok (.iinc 4 1, 3) := by decide +kernel
theorem dX8_rests_276 : decode cX8_rests 276 = .ok (.goto (-210), 3) := by decide +kernel
theorem dX8_rests_279 : decode cX8_rests 279 = .ok (.goto (-226), 3) := by decide +kernel
theorem dX8_rests_282 : decode cX8_rests 282 = .ok (.return_, 1) := by decide +kernel
set_option maxRecDepth 20000 in
theorem ggX8_closes_X8_outOf : GoodIn wsX8_closes wsX8_outOf := goodIn_r _ [7, 8, 9, 28, 29, 30, 31, 32, 33, 34, 35, 36, 37, 38, 39, 40, 41, 42, 43, 44, 45, 46, 47, 48, 49, 50, 51, 52, 53, 54, 55, 56, 57, 58, 59, 60, 61, 62, 63, 64, 65, 66, 67, 68, 69, 70, 71, 72, 73, 74] (by decide +kernel) (by decide +kernel)
set_option maxRecDepth 20000 in
theorem gX8_closes_X8_outOf : GoodIn wsX8_closes (wsV RX8 289 RX8 yX8_outOf wsX8_outOf) := goodIn_app (goodIn_of _ (by decide +kernel)) ggX8_closes_X8_outOf
set_option maxRecDepth 20000 in
theorem ggX8_closes_X8_goesOn : GoodIn wsX8_closes wsX8_goesOn := goodIn_r _ [13, 14, 15, 16, 17, 18, 19, 20, 21, 6, 22, 2, 23, 24, 25, 26, 27, 9, 8, 28, 29, 30, 31, 32, 33, 34, 35, 36, 37, 38, 39, 40, 41, 42, 43, 44, 45, 46, 47, 48, 49, 50, 51, 52, 53, 54, 55, 56, 57, 58, 59, 60, 61, 62, 63, 64, 65, 66, 67, 68, 69, 70, 71, 72, 73, 74] (by decide +kernel) (by decide +kernel)
set_option maxRecDepth 20000 in
theorem gX8_closes_X8_goesOn : GoodIn wsX8_closes (wsV RX8 292 RX8 yX8_goesOn wsX8_goesOn) := goodIn_app (goodIn_of _ (by decide +kernel)) ggX8_closes_X8_goesOn
theorem dX8_closes_0 : decode cX8_closes 0 = .ok (.iconst 1, 1) := by decide +kernel
theorem dX8_closes_1 : decode cX8_closes 1 = .ok (.istore 4, 2) := by decide +kernel
theorem dX8_closes_3 : decode cX8_closes 3 = .ok (.iload 4, 2) := by decide +kernel
theorem dX8_closes_5 : decode cX8_closes 5 = .ok (.ifCond .eq 96, 3) := by decide +kernel
theorem dX8_closes_8 : decode cX8_closes 8 = .ok (.iconst 0, 1) := by decide +kernel
theorem dX8_closes_9 : decode cX8_closes 9 = .ok (.istore 4, 2) := by decide +kernel
theorem dX8_closes_11 : decode cX8_closes 11 = .ok (.sipush 160, 3) := by decide +kernel
theorem dX8_closes_14 : decode cX8_closes 14 = .ok (.iload_n 1, 1) := by decide +kernel
theorem dX8_closes_15 : decode cX8_closes 15 = .ok (.imul, 1) := by decide +kernel
theorem dX8_closes_16 : decode cX8_closes 16 = .ok (.istore 5, 2) := by decide +kernel
theorem dX8_closes_18 : decode cX8_closes 18 = .ok (.iload 5, 2) := by decide +kernel
theorem dX8_closes_20 : decode cX8_closes 20 = .ok (.sipush 160, 3) := by decide +kernel
theorem dX8_closes_23 : decode cX8_closes 23 = .ok (.iload_n 1, 1) := by decide +kernel
theorem dX8_closes_24 : decode cX8_closes 24 = .ok (.imul, 1) := by decide +kernel
theorem dX8_closes_25 : decode cX8_closes 25 = .ok (.aload_n 0, 1) := by decide +kernel
theorem dX8_closes_26 : decode cX8_closes 26 = .ok (.getfield 19, 3) := by decide +kernel
theorem dX8_closes_29 : decode cX8_closes 29 = .ok (.iload_n 1, 1) := by decide +kernel
theorem dX8_closes_30 : decode cX8_closes 30 = .ok (.iaload, 1) := by decide +kernel
theorem dX8_closes_31 : decode cX8_closes 31 = .ok (.iadd, 1) := by decide +kernel
theorem dX8_closes_32 : decode cX8_closes 32 = .ok (.if_icmp .ge 66, 3) := by decide +kernel
theorem dX8_closes_35 : decode cX8_closes 35 = .ok (.iconst 0, 1) := by decide +kernel
theorem dX8_closes_36 : decode cX8_closes 36 = .ok (.istore 6, 2) := by decide +kernel
theorem dX8_closes_38 : decode cX8_closes 38 = .ok (.iload 6, 2) := by decide +kernel
theorem dX8_closes_40 : decode cX8_closes 40 = .ok (.aload_n 0, 1) := by decide +kernel
theorem dX8_closes_41 : decode cX8_closes 41 = .ok (.getfield 135, 3) := by decide +kernel
theorem dX8_closes_44 : decode cX8_closes 44 = .ok (.if_icmp .gt 48, 3) := by decide +kernel
theorem dX8_closes_47 : decode cX8_closes 47 = .ok (.aload_n 0, 1) := by decide +kernel
theorem dX8_closes_48 : decode cX8_closes 48 = .ok (.iload 5, 2) := by decide +kernel
theorem dX8_closes_50 : decode cX8_closes 50 = .ok (.iload_n 2, 1) := by decide +kernel
theorem dX8_closes_51 : decode cX8_closes 51 = .ok (.invokevirtual 289, 3) := by decide +kernel
theorem dX8_closes_54 : decode cX8_closes 54 = .ok (.bipush 8, 2) := by decide +kernel
theorem dX8_closes_56 : decode cX8_closes 56 = .ok (.if_icmp .ne 36, 3) := by decide +kernel
theorem dX8_closes_59 : decode cX8_closes 59 = .ok (.aload_n 0, 1) := by decide +kernel
theorem dX8_closes_60 : decode cX8_closes 60 = .ok (.iload_n 1, 1) := by decide +kernel
theorem dX8_closes_61 : decode cX8_closes 61 = .ok (.iload_n 2, 1) := by decide +kernel
theorem dX8_closes_62 : decode cX8_closes 62 = .ok (.iload_n 3, 1) := by decide +kernel
theorem dX8_closes_63 : decode cX8_closes 63 = .ok (.iload_n 3, 1) := by decide +kernel
theorem dX8_closes_64 : decode cX8_closes 64 = .ok (.iload 5, 2) := by decide +kernel
theorem dX8_closes_66 : decode cX8_closes 66 = .ok (.iload 6, 2) := by decide +kernel
theorem dX8_closes_68 : decode cX8_closes 68 = .ok (.invokevirtual 292, 3) := by decide +kernel
theorem dX8_closes_71 : decode cX8_closes 71 = .ok (.ifCond .ne 8, 3) := by decide +kernel
theorem dX8_closes_74 : decode cX8_closes 74 = .ok (.iload 4, 2) := by decide +kernel
theorem dX8_closes_76 : decode cX8_closes 76 = .ok (.ifCond .eq 7, 3) := by decide +kernel
theorem dX8_closes_79 : decode cX8_closes 79 = .ok (.iconst 1, 1) := by decide +kernel
theorem dX8_closes_80 : decode cX8_closes 80 = .ok (.goto 4, 3) := by decide +kernel
theorem dX8_closes_83 : decode cX8_closes 83 = .ok (.iconst 0, 1) := by decide +kernel
theorem dX8_closes_84 : decode cX8_closes 84 = .ok (.istore 4, 2) := by decide +kernel
theorem dX8_closes_86 : decode cX8_closes 86 = .ok (.iinc 6 1, 3) := by decide +kernel
theorem dX8_closes_89 : decode cX8_closes 89 = .ok (.goto (-51), 3) := by decide +kernel
theorem dX8_closes_92 : decode cX8_closes 92 = .ok (.iinc 5 1, 3) := by decide +kernel
theorem dX8_closes_95 : decode cX8_closes 95 = .ok (.goto (-77), 3) := by decide +kernel
theorem dX8_closes_98 : decode cX8_closes 98 = .ok (.goto (-95), 3) := by decide +kernel
theorem dX8_closes_101 : decode cX8_closes 101 = .ok (.return_, 1) := by decide +kernel
set_option maxRecDepth 20000 in
theorem ggX8_goesOn_X8_behind : GoodIn wsX8_goesOn wsX8_behind := goodIn_r _ [10, 11, 12, 13, 14, 15, 9, 16, 17, 18, 19, 20, 21, 22, 23, 24, 25, 26, 27, 28, 29, 30, 31, 32, 33, 34, 35, 36, 37, 38, 39, 40, 41, 42, 43, 44, 45, 46, 47, 48, 49, 50, 51, 52, 53, 54, 55, 56, 57, 58, 59, 60, 61, 62, 63, 64, 65] (by decide +kernel) (by decide +kernel)
set_option maxRecDepth 20000 in
theorem gX8_goesOn_X8_behind : GoodIn wsX8_goesOn (wsV RX8 285 RX8 yX8_behind wsX8_behind) := goodIn_app (goodIn_of _ (by decide +kernel)) ggX8_goesOn_X8_behind
theorem dX8_goesOn_0 : decode cX8_goesOn 0 = .ok (.aload_n 0, 1) := by decide +kernel
theorem dX8_goesOn_1 : decode cX8_goesOn 1 = .ok (.getfield 106, 3) := by decide +kernel
theorem dX8_goesOn_4 : decode cX8_goesOn 4 = .ok (.sipush 288, 3) := by decide +kernel
theorem dX8_goesOn_7 : decode cX8_goesOn 7 = .ok (.iload_n 3, 1) := by decide +kernel
theorem dX8_goesOn_8 : decode cX8_goesOn 8 = .ok (.imul, 1) := by decide +kernel
theorem dX8_goesOn_9 : decode cX8_goesOn 9 = .ok (.bipush 32, 2) := by decide +kernel
theorem dX8_goesOn_11 : decode cX8_goesOn 11 = .ok (.iload 6, 2) := by decide +kernel
theorem dX8_goesOn_13 : decode cX8_goesOn 13 = .ok (.imul, 1) := by decide +kernel
theorem dX8_goesOn_14 : decode cX8_goesOn 14 = .ok (.iadd, 1) := by decide +kernel
theorem dX8_goesOn_15 : decode cX8_goesOn 15 = .ok (.aload_n 0, 1) := by decide +kernel
theorem dX8_goesOn_16 : decode cX8_goesOn 16 = .ok (.getfield 22, 3) := by decide +kernel
theorem dX8_goesOn_19 : decode cX8_goesOn 19 = .ok (.iload 5, 2) := by decide +kernel
theorem dX8_goesOn_21 : decode cX8_goesOn 21 = .ok (.iaload, 1) := by decide +kernel
theorem dX8_goesOn_22 : decode cX8_goesOn 22 = .ok (.iadd, 1) := by decide +kernel
theorem dX8_goesOn_23 : decode cX8_goesOn 23 = .ok (.baload, 1) := by decide +kernel
theorem dX8_goesOn_24 : decode cX8_goesOn 24 = .ok (.ifCond .eq 15, 3) := by decide +kernel
theorem dX8_goesOn_27 : decode cX8_goesOn 27 = .ok (.aload_n 0, 1) := by decide +kernel
theorem dX8_goesOn_28 : decode cX8_goesOn 28 = .ok (.iload 5, 2) := by decide +kernel
theorem dX8_goesOn_30 : decode cX8_goesOn 30 = .ok (.iload 6, 2) := by decide +kernel
theorem dX8_goesOn_32 : decode cX8_goesOn 32 = .ok (.iload_n 2, 1) := by decide +kernel
theorem dX8_goesOn_33 : decode cX8_goesOn 33 = .ok (.invokevirtual 285, 3) := by decide +kernel
theorem dX8_goesOn_36 : decode cX8_goesOn 36 = .ok (.goto 4, 3) := by decide +kernel
theorem dX8_goesOn_39 : decode cX8_goesOn 39 = .ok (.iconst (-1), 1) := by decide +kernel
theorem dX8_goesOn_40 : decode cX8_goesOn 40 = .ok (.istore 7, 2) := by decide +kernel
theorem dX8_goesOn_42 : decode cX8_goesOn 42 = .ok (.iload 7, 2) := by decide +kernel
theorem dX8_goesOn_44 : decode cX8_goesOn 44 = .ok (.iconst (-1), 1) := by decide +kernel
theorem dX8_goesOn_45 : decode cX8_goesOn 45 = .ok (.if_icmp .eq 59, 3) := by decide +kernel
theorem dX8_goesOn_48 : decode cX8_goesOn 48 = .ok (.aload_n 0, 1) := by decide +kernel
theorem dX8_goesOn_49 : decode cX8_goesOn 49 = .ok (.getfield 96, 3) := by decide +kernel
theorem dX8_goesOn_52 : decode cX8_goesOn 52 = .ok (.bipush 32, 2) := by decide +kernel
theorem dX8_goesOn_54 : decode cX8_goesOn 54 = .ok (.iload 7, 2) := by decide +kernel
theorem dX8_goesOn_56 : decode cX8_goesOn 56 = .ok (.imul, 1) := by decide +kernel
theorem dX8_goesOn_57 : decode cX8_goesOn 57 = .ok (.aload_n 0, 1) := by decide +kernel
theorem dX8_goesOn_58 : decode cX8_goesOn 58 = .ok (.getfield 34, 3) := by decide +kernel
theorem dX8_goesOn_61 : decode cX8_goesOn 61 = .ok (.iload 5, 2) := by decide +kernel
theorem dX8_goesOn_63 : decode cX8_goesOn 63 = .ok (.iaload, 1) := by decide +kernel
theorem dX8_goesOn_64 : decode cX8_goesOn 64 = .ok (.iadd, 1) := by decide +kernel
theorem dX8_goesOn_65 : decode cX8_goesOn 65 = .ok (.iaload, 1) := by decide +kernel
theorem dX8_goesOn_66 : decode cX8_goesOn 66 = .ok (.ldc_w 284, 3) := by decide +kernel
theorem dX8_goesOn_69 : decode cX8_goesOn 69 = .ok (.if_icmp .eq 35, 3) := by decide +kernel
theorem dX8_goesOn_72 : decode cX8_goesOn 72 = .ok (.aload_n 0, 1) := by decide +kernel
theorem dX8_goesOn_73 : decode cX8_goesOn 73 = .ok (.getfield 106, 3) := by decide +kernel
theorem dX8_goesOn_76 : decode cX8_goesOn 76 = .ok (.sipush 288, 3) := by decide +kernel
theorem dX8_goesOn_79 : decode cX8_goesOn 79 = .ok (.iload 4, 2) := by decide +kernel
theorem dX8_goesOn_81 : decode cX8_goesOn 81 = .ok (.imul, 1) := by decide +kernel
theorem dX8_goesOn_82 : decode cX8_goesOn 82 = .ok (.bipush 32, 2) := by decide +kernel
theorem dX8_goesOn_84 : decode cX8_goesOn 84 = .ok (.iload 7, 2) := by decide +kernel
theorem dX8_goesOn_86 : decode cX8_goesOn 86 = .ok (.imul, 1) := by decide +kernel
theorem dX8_goesOn_87 : decode cX8_goesOn 87 = .ok (.iadd, 1) := by decide +kernel
theorem dX8_goesOn_88 : decode cX8_goesOn 88 = .ok (.aload_n 0, 1) := by decide +kernel
theorem dX8_goesOn_89 : decode cX8_goesOn 89 = .ok (.getfield 34, 3) := by decide +kernel
theorem dX8_goesOn_92 : decode cX8_goesOn 92 = .ok (.iload 5, 2) := by decide +kernel
theorem dX8_goesOn_94 : decode cX8_goesOn 94 = .ok (.iaload, 1) := by decide +kernel
theorem dX8_goesOn_95 : decode cX8_goesOn 95 = .ok (.iadd, 1) := by decide +kernel
theorem dX8_goesOn_96 : decode cX8_goesOn 96 = .ok (.baload, 1) := by decide +kernel
theorem dX8_goesOn_97 : decode cX8_goesOn 97 = .ok (.ifCond .ne 7, 3) := by decide +kernel
theorem dX8_goesOn_100 : decode cX8_goesOn 100 = .ok (.iconst 1, 1) := by decide +kernel
theorem dX8_goesOn_101 : decode cX8_goesOn 101 = .ok (.goto 4, 3) := by decide +kernel
theorem dX8_goesOn_104 : decode cX8_goesOn 104 = .ok (.iconst 0, 1) := by decide +kernel
theorem dX8_goesOn_105 : decode cX8_goesOn 105 = .ok (.istore 8, 2) := by decide +kernel
theorem dX8_goesOn_107 : decode cX8_goesOn 107 = .ok (.iload 8, 2) := by decide +kernel
theorem dX8_goesOn_109 : decode cX8_goesOn 109 = .ok (.ifCond .eq 29, 3) := by decide +kernel
theorem dX8_goesOn_112 : decode cX8_goesOn 112 = .ok (.aload_n 0, 1) := by decide +kernel
theorem dX8_goesOn_113 : decode cX8_goesOn 113 = .ok (.getfield 106, 3) := by decide +kernel
theorem dX8_goesOn_116 : decode cX8_goesOn 116 = .ok (.sipush 288, 3) := by decide +kernel
theorem dX8_goesOn_119 : decode cX8_goesOn 119 = .ok (.iload 4, 2) := by decide +kernel
theorem dX8_goesOn_121 : decode cX8_goesOn 121 = .ok (.imul, 1) := by decide +kernel
theorem dX8_goesOn_122 : decode cX8_goesOn 122 = .ok (.bipush 32, 2) := by decide +kernel
theorem dX8_goesOn_124 : decode cX8_goesOn 124 = .ok (.iload 7, 2) := by decide +kernel
theorem dX8_goesOn_126 : decode cX8_goesOn 126 = .ok (.imul, 1) := by decide +kernel
theorem dX8_goesOn_127 : decode cX8_goesOn 127 = .ok (.iadd, 1) := by decide +kernel
theorem dX8_goesOn_128 : decode cX8_goesOn 128 = .ok (.aload_n 0, 1) := by decide +kernel
theorem dX8_goesOn_129 : decode cX8_goesOn 129 = .ok (.getfield 34, 3) := by decide +kernel
theorem dX8_goesOn_132 : decode cX8_goesOn 132 = .ok (.iload 5, 2) := by decide +kernel
theorem dX8_goesOn_134 : decode cX8_goesOn 134 = .ok (.iaload, 1) := by decide +kernel
theorem dX8_goesOn_135 : decode cX8_goesOn 135 = .ok (.iadd, 1) := by decide +kernel
theorem dX8_goesOn_136 : decode cX8_goesOn 136 = .ok (.iconst 1, 1) := by decide +kernel
theorem dX8_goesOn_137 : decode cX8_goesOn 137 = .ok (.bastore, 1) := by decide +kernel
theorem dX8_goesOn_138 : decode cX8_goesOn 138 = .ok (.iload 8, 2) := by decide +kernel
theorem dX8_goesOn_140 : decode cX8_goesOn 140 = .ok (.ireturn, 1) := by decide +kernel
theorem dX8_empties_0 : decode cX8_empties 0 = .ok (.iconst 0, 1) := by decide +kernel
theorem dX8_empties_1 : decode cX8_empties 1 = .ok (.istore_n 2, 1) := by decide +kernel
theorem dX8_empties_2 : decode cX8_empties 2 = .ok (.iload_n 2, 1) := by decide +kernel
theorem dX8_empties_3 : decode cX8_empties 3 = .ok (.sipush 288, 3) := by decide +kernel
theorem dX8_empties_6 : decode cX8_empties 6 = .ok (.if_icmp .ge 22, 3) := by decide +kernel
theorem dX8_empties_9 : decode cX8_empties 9 = .ok (.aload_n 0, 1) := by decide +kernel
theorem dX8_empties_10 : decode cX8_empties 10 = .ok (.getfield 106, 3) := by decide +kernel
theorem dX8_empties_13 : decode cX8_empties 13 = .ok (.sipush 288, 3) := by decide +kernel
theorem dX8_empties_16 : decode cX8_empties 16 = .ok (.iload_n 1, 1) := by decide +kernel
theorem dX8_empties_17 : decode cX8_empties 17 = .ok (.imul, 1) := by decide +kernel
theorem dX8_empties_18 : decode cX8_empties 18 = .ok (.iload_n 2, 1) := by decide +kernel
theorem dX8_empties_19 : decode cX8_empties 19 = .ok (.iadd, 1) := by decide +kernel
theorem dX8_empties_20 : decode cX8_empties 20 = .ok (.iconst 0, 1) := by decide +kernel
theorem dX8_empties_21 : decode cX8_empties 21 = .ok (.bastore, 1) := by decide +kernel
theorem dX8_empties_22 : decode cX8_empties 22 = .ok (.iinc 2 1, 3) := by decide +kernel
theorem dX8_empties_25 : decode cX8_empties 25 = .ok (.goto (-23), 3) := by decide +kernel
theorem dX8_empties_28 : decode cX8_empties 28 = .ok (.return_, 1) := by decide +kernel
set_option maxRecDepth 20000 in
theorem ggX8_goesBy_X8_empties : GoodIn wsX8_goesBy wsX8_empties := goodIn_r _ [7, 8, 36, 37, 38, 39, 40, 41, 42, 43, 44, 45, 46, 47, 48, 49, 50, 51, 52, 53, 54, 55, 56, 57, 58, 59, 60, 61, 62, 63, 64, 65, 66, 67, 68, 69, 70, 71, 72, 73, 74, 75, 76, 77, 78, 79, 80, 81, 82] (by decide +kernel) (by decide +kernel)
set_option maxRecDepth 20000 in
theorem gX8_goesBy_X8_empties : GoodIn wsX8_goesBy (wsV RX8 296 RX8 yX8_empties wsX8_empties) := goodIn_app (goodIn_of _ (by decide +kernel)) ggX8_goesBy_X8_empties
set_option maxRecDepth 20000 in
theorem ggX8_goesBy_X8_outOf : GoodIn wsX8_goesBy wsX8_outOf := goodIn_r _ [12, 13, 14, 36, 37, 38, 39, 40, 41, 42, 43, 44, 45, 46, 47, 48, 49, 50, 51, 52, 53, 54, 55, 56, 57, 58, 59, 60, 61, 62, 63, 64, 65, 66, 67, 68, 69, 70, 71, 72, 73, 74, 75, 76, 77, 78, 79, 80, 81, 82] (by decide +kernel) (by decide +kernel)
set_option maxRecDepth 20000 in
theorem gX8_goesBy_X8_outOf : GoodIn wsX8_goesBy (wsV RX8 289 RX8 yX8_outOf wsX8_outOf) := goodIn_app (goodIn_of _ (by decide +kernel)) ggX8_goesBy_X8_outOf
set_option maxRecDepth 20000 in
theorem ggX8_goesBy_X8_goesOn : GoodIn wsX8_goesBy wsX8_goesOn := goodIn_r _ [18, 8, 19, 20, 21, 22, 23, 24, 25, 6, 26, 2, 27, 28, 29, 30, 31, 14, 13, 36, 37, 38, 39, 40, 41, 42, 43, 44, 45, 46, 47, 48, 49, 50, 51, 52, 53, 54, 55, 56, 57, 58, 59, 60, 61, 62, 63, 64, 65, 66, 67, 68, 69, 70, 71, 72, 73, 74, 75, 76, 77, 78, 79, 80, 81, 82] (by decide +kernel) (by decide +kernel)
set_option maxRecDepth 20000 in
theorem gX8_goesBy_X8_goesOn : GoodIn wsX8_goesBy (wsV RX8 292 RX8 yX8_goesOn wsX8_goesOn) := goodIn_app (goodIn_of _ (by decide +kernel)) ggX8_goesBy_X8_goesOn
set_option maxRecDepth 20000 in
theorem ggX8_goesBy_X8_closes : GoodIn wsX8_goesBy wsX8_closes := goodIn_r _ [35, 1, 2, 9, 10, 11, 6, 12, 13, 14, 15, 16, 17, 18, 8, 19, 20, 21, 22, 23, 24, 25, 26, 27, 28, 29, 30, 31, 36, 37, 38, 39, 40, 41, 42, 43, 44, 45, 46, 47, 48, 49, 50, 51, 52, 53, 54, 55, 56, 57, 58, 59, 60, 61, 62, 63, 64, 65, 66, 67, 68, 69, 70, 71, 72, 73, 74, 75, 76, 77, 78, 79, 80, 81, 82] (by decide +kernel) (by decide +kernel)
set_option maxRecDepth 20000 in
theorem gX8_goesBy_X8_closes : GoodIn wsX8_goesBy (wsV RX8 299 RX8 yX8_closes wsX8_closes) := goodIn_app (goodIn_of _ (by decide +kernel)) ggX8_goesBy_X8_closes
theorem dX8_goesBy_0 : decode cX8_goesBy 0 = .ok (.aload_n 0, 1) := by decide +kernel
theorem dX8_goesBy_1 : decode cX8_goesBy 1 = .ok (.iload_n 3, 1) := by decide +kernel
theorem dX8_goesBy_2 : decode cX8_goesBy 2 = .ok (.iconst 1, 1) := by decide +kernel
theorem dX8_goesBy_3 : decode cX8_goesBy 3 = .ok (.iadd, 1) := by decide +kernel
theorem dX8_goesBy_4 : decode cX8_goesBy 4 = .ok (.invokevirtual 296, 3) := by decide +kernel
theorem dX8_goesBy_7 : decode cX8_goesBy 7 = .ok (.iconst 0, 1) := by decide +kernel
theorem dX8_goesBy_8 : decode cX8_goesBy 8 = .ok (.istore 5, 2) := by decide +kernel
theorem dX8_goesBy_10 : decode cX8_goesBy 10 = .ok (.sipush 160, 3) := by decide +kernel
theorem dX8_goesBy_13 : decode cX8_goesBy 13 = .ok (.iload_n 1, 1) := by decide +kernel
theorem dX8_goesBy_14 : decode cX8_goesBy 14 = .ok (.imul, 1) := by decide +kernel
theorem dX8_goesBy_15 : decode cX8_goesBy 15 = .ok (.istore 6, 2) := by decide +kernel
theorem dX8_goesBy_17 : decode cX8_goesBy 17 = .ok (.iload 6, 2) := by decide +kernel
theorem dX8_goesBy_19 : decode cX8_goesBy 19 = .ok (.sipush 160, 3) := by decide +kernel
theorem dX8_goesBy_22 : decode cX8_goesBy 22 = .ok (.iload_n 1, 1) := by decide +kernel
theorem dX8_goesBy_23 : decode cX8_goesBy 23 = .ok (.imul, 1) := by decide +kernel
theorem dX8_goesBy_24 : decode cX8_goesBy 24 = .ok (.aload_n 0, 1) := by decide +kernel
theorem dX8_goesBy_25 : decode cX8_goesBy 25 = .ok (.getfield 19, 3) := by decide +kernel
theorem dX8_goesBy_28 : decode cX8_goesBy 28 = .ok (.iload_n 1, 1) := by decide +kernel
theorem dX8_goesBy_29 : decode cX8_goesBy 29 = .ok (.iaload, 1) := by decide +kernel
theorem dX8_goesBy_30 : decode cX8_goesBy 30 = .ok (.iadd, 1) := by decide +kernel
theorem dX8_goesBy_31 : decode cX8_goesBy 31 = .ok (.if_icmp .ge 68, 3) := by decide +kernel
theorem dX8_goesBy_34 : decode cX8_goesBy 34 = .ok (.iconst 0, 1) := by decide +kernel
theorem dX8_goesBy_35 : decode cX8_goesBy 35 = .ok (.istore 7, 2) := by decide +kernel
theorem dX8_goesBy_37 : decode cX8_goesBy 37 = .ok (.iload 7, 2) := by decide +kernel
theorem dX8_goesBy_39 : decode cX8_goesBy 39 = .ok (.aload_n 0, 1) := by decide +kernel
theorem dX8_goesBy_40 : decode cX8_goesBy 40 = .ok (.getfield 135, 3) := by decide +kernel
theorem dX8_goesBy_43 : decode cX8_goesBy 43 = .ok (.if_icmp .gt 50, 3) := by decide +kernel
theorem dX8_goesBy_46 : decode cX8_goesBy 46 = .ok (.aload_n 0, 1) := by decide +kernel
theorem dX8_goesBy_47 : decode cX8_goesBy 47 = .ok (.iload 6, 2) := by decide +kernel
theorem dX8_goesBy_49 : decode cX8_goesBy 49 = .ok (.iload_n 2, 1) := by decide +kernel
theorem dX8_goesBy_50 : decode cX8_goesBy 50 = .ok (.invokevirtual 289, 3) := by decide +kernel
theorem dX8_goesBy_53 : decode cX8_goesBy 53 = .ok (.iload 4, 2) := by decide +kernel
theorem dX8_goesBy_55 : decode cX8_goesBy 55 = .ok (.if_icmp .ne 38, 3) := by decide +kernel
theorem dX8_goesBy_58 : decode cX8_goesBy 58 = .ok (.aload_n 0, 1) := by decide +kernel
theorem dX8_goesBy_59 : decode cX8_goesBy 59 = .ok (.iload_n 1, 1) := by decide +kernel
theorem dX8_goesBy_60 : decode cX8_goesBy 60 = .ok (.iload_n 2, 1) := by decide +kernel
theorem dX8_goesBy_61 : decode cX8_goesBy 61 = .ok (.iload_n 3, 1) := by decide +kernel
theorem dX8_goesBy_62 : decode cX8_goesBy 62 = .ok (.iload_n 3, 1) := by decide +kernel
theorem dX8_goesBy_63 : decode cX8_goesBy 63 = .ok (.iconst 1, 1) := by decide +kernel
theorem dX8_goesBy_64 : decode cX8_goesBy 64 = .ok (.iadd, 1) := by decide +kernel
theorem dX8_goesBy_65 : decode cX8_goesBy 65 = .ok (.iload 6, 2) := by decide +kernel
theorem dX8_goesBy_67 : decode cX8_goesBy 67 = .ok (.iload 7, 2) := by decide +kernel
theorem dX8_goesBy_69 : decode cX8_goesBy 69 = .ok (.invokevirtual 292, 3) := by decide +kernel
theorem dX8_goesBy_72 : decode cX8_goesBy 72 = .ok (.ifCond .ne 8, 3) := by decide +kernel
theorem dX8_goesBy_75 : decode cX8_goesBy 75 = .ok (.iload 5, 2) := by decide +kernel
theorem dX8_goesBy_77 : decode cX8_goesBy 77 = .ok (.ifCond .eq 7, 3) := by decide +kernel
theorem dX8_goesBy_80 : decode cX8_goesBy 80 = .ok (.iconst 1, 1) := by decide +kernel
theorem dX8_goesBy_81 : decode cX8_goesBy 81 = .ok (.goto 4, 3) := by decide +kernel
theorem dX8_goesBy_84 : decode cX8_goesBy 84 = .ok (.iconst 0, 1) := by decide +kernel
theorem dX8_goesBy_85 : decode cX8_goesBy 85 = .ok (.istore 5, 2) := by decide +kernel
theorem dX8_goesBy_87 : decode cX8_goesBy 87 = .ok (.iinc 7 1, 3) := by decide +kernel
theorem dX8_goesBy_90 : decode cX8_goesBy 90 = .ok (.goto (-53), 3) := by decide +kernel
theorem dX8_goesBy_93 : decode cX8_goesBy 93 = .ok (.iinc 6 1, 3) := by decide +kernel
theorem dX8_goesBy_96 : decode cX8_goesBy 96 = .ok (.goto (-79), 3) := by decide +kernel
theorem dX8_goesBy_99 : decode cX8_goesBy 99 = .ok (.iload 5, 2) := by decide +kernel
theorem dX8_goesBy_101 : decode cX8_goesBy 101 = .ok (.ifCond .eq 12, 3) := by decide +kernel
theorem dX8_goesBy_104 : decode cX8_goesBy 104 = .ok (.aload_n 0, 1) := by decide +kernel
theorem dX8_goesBy_105 : decode cX8_goesBy 105 = .ok (.iload_n 1, 1) := by decide +kernel
theorem dX8_goesBy_106 : decode cX8_goesBy 106 = .ok (.iload_n 2, 1) := by decide +kernel
theorem dX8_goesBy_107 : decode cX8_goesBy 107 = .ok (.iload_n 3, 1) := by decide +kernel
theorem dX8_goesBy_108 : decode cX8_goesBy 108 = .ok (.iconst 1, 1) := by decide +kernel
theorem dX8_goesBy_109 : decode cX8_goesBy 109 = .ok (.iadd, 1) := by decide +kernel
theorem dX8_goesBy_110 : decode cX8_goesBy 110 = .ok (.invokevirtual 299, 3) := by decide +kernel
theorem dX8_goesBy_113 : decode cX8_goesBy 113 = .ok (.iload 5, 2) := by decide +kernel
theorem dX8_goesBy_115 : decode cX8_goesBy 115 = .ok (.ireturn, 1) := by decide +kernel
set_option maxRecDepth 20000 in
theorem ggX8_isAnswer_X8_isEndOf : GoodIn wsX8_isAnswer wsX8_isEndOf := goodIn_r _ [8, 9, 10, 11, 12, 13, 14, 15, 16, 17, 18, 19, 20, 21, 22, 23, 24, 25, 26, 27, 28, 29, 30, 31, 32, 33, 34, 35, 36, 37, 38, 39, 40, 41, 42, 43, 44, 45, 46, 47, 48, 49, 50, 51, 52, 53, 54, 55, 56] (by decide +kernel) (by decide +kernel)
set_option maxRecDepth 20000 in
theorem gX8_isAnswer_X8_isEndOf : GoodIn wsX8_isAnswer (wsV RX8 201 RX8 yX8_isEndOf wsX8_isEndOf) := goodIn_app (goodIn_of _ (by decide +kernel)) ggX8_isAnswer_X8_isEndOf
theorem dX8_isAnswer_0 : decode cX8_isAnswer 0 = .ok (.iconst 0, 1) := by decide +kernel
theorem dX8_isAnswer_1 : decode cX8_isAnswer 1 = .ok (.istore_n 3, 1) := by decide +kernel
theorem dX8_isAnswer_2 : decode cX8_isAnswer 2 = .ok (.iconst 0, 1) := by decide +kernel
theorem dX8_isAnswer_3 : decode cX8_isAnswer 3 = .ok (.istore 4, 2) := by decide +kernel
theorem dX8_isAnswer_5 : decode cX8_isAnswer 5 = .ok (.iload 4, 2) := by decide +kernel
theorem dX8_isAnswer_7 : decode cX8_isAnswer 7 = .ok (.aload_n 0, 1) := by decide +kernel
theorem dX8_isAnswer_8 : decode cX8_isAnswer 8 = .ok (.getfield 13, 3) := by decide +kernel
theorem dX8_isAnswer_11 : decode cX8_isAnswer 11 = .ok (.iload_n 1, 1) := by decide +kernel
theorem dX8_isAnswer_12 : decode cX8_isAnswer 12 = .ok (.iaload, 1) := by decide +kernel
theorem dX8_isAnswer_13 : decode cX8_isAnswer 13 = .ok (.if_icmp .ge 53, 3) := by decide +kernel
theorem dX8_isAnswer_16 : decode cX8_isAnswer 16 = .ok (.iload_n 3, 1) := by decide +kernel
theorem dX8_isAnswer_17 : decode cX8_isAnswer 17 = .ok (.ifCond .ne 37, 3) := by decide +kernel
theorem dX8_isAnswer_20 : decode cX8_isAnswer 20 = .ok (.aload_n 0, 1) := by decide +kernel
theorem dX8_isAnswer_21 : decode cX8_isAnswer 21 = .ok (.getfield 106, 3) := by decide +kernel
theorem dX8_isAnswer_24 : decode cX8_isAnswer 24 = .ok (.sipush 288, 3) := by decide +kernel
theorem dX8_isAnswer_27 : decode cX8_isAnswer 27 = .ok (.iload_n 2, 1) := by decide +kernel
theorem dX8_isAnswer_28 : decode cX8_isAnswer 28 = .ok (.imul, 1) := by decide +kernel
theorem dX8_isAnswer_29 : decode cX8_isAnswer 29 = .ok (.bipush 32, 2) := by decide +kernel
theorem dX8_isAnswer_31 : decode cX8_isAnswer 31 = .ok (.aload_n 0, 1) := by decide +kernel
theorem dX8_isAnswer_32 : decode cX8_isAnswer 32 = .ok (.getfield 135, 3) := by decide +kernel
theorem dX8_isAnswer_35 : decode cX8_isAnswer 35 = .ok (.imul, 1) := by decide +kernel
theorem dX8_isAnswer_36 : decode cX8_isAnswer 36 = .ok (.iadd, 1) := by decide +kernel
theorem dX8_isAnswer_37 : decode cX8_isAnswer 37 = .ok (.iload 4, 2) := by decide +kernel
theorem dX8_isAnswer_39 : decode cX8_isAnswer 39 = .ok (.iadd, 1) := by decide +kernel
theorem dX8_isAnswer_40 : decode cX8_isAnswer 40 = .ok (.baload, 1) := by decide +kernel
theorem dX8_isAnswer_41 : decode cX8_isAnswer 41 = .ok (.ifCond .eq 17, 3) := by decide +kernel
theorem dX8_isAnswer_44 : decode cX8_isAnswer 44 = .ok (.aload_n 0, 1) := by decide +kernel
theorem dX8_isAnswer_45 : decode cX8_isAnswer 45 = .ok (.iload_n 1, 1) := by decide +kernel
theorem dX8_isAnswer_46 : decode cX8_isAnswer 46 = .ok (.iload 4, 2) := by decide +kernel
theorem dX8_isAnswer_48 : decode cX8_isAnswer 48 = .ok (.invokevirtual 201, 3) := by decide +kernel
theorem dX8_isAnswer_51 : decode cX8_isAnswer 51 = .ok (.ifCond .eq 7, 3) := by decide +kernel
theorem dX8_isAnswer_54 : decode cX8_isAnswer 54 = .ok (.iconst 1, 1) := by decide +kernel
theorem dX8_isAnswer_55 : decode cX8_isAnswer 55 = .ok (.goto 4, 3) := by decide +kernel
theorem dX8_isAnswer_58 : decode cX8_isAnswer 58 = .ok (.iconst 0, 1) := by decide +kernel
theorem dX8_isAnswer_59 : decode cX8_isAnswer 59 = .ok (.istore_n 3, 1) := by decide +kernel
theorem dX8_isAnswer_60 : decode cX8_isAnswer 60 = .ok (.iinc 4 1, 3) := by decide +kernel
theorem dX8_isAnswer_63 : decode cX8_isAnswer 63 = .ok (.goto (-58), 3) := by decide +kernel
theorem dX8_isAnswer_66 : decode cX8_isAnswer 66 = .ok (.iload_n 3, 1) := by decide +kernel
theorem dX8_isAnswer_67 : decode cX8_isAnswer 67 = .ok (.ireturn, 1) := by decide +kernel
set_option maxRecDepth 20000 in
theorem ggX8_answersTo_X8_rests : GoodIn wsX8_answersTo wsX8_rests := goodIn_r _ [11, 1, 12, 2, 13, 14, 15, 16, 17, 18, 19, 10, 20, 21, 22, 23, 24, 25, 26, 27, 28, 29, 30, 31, 32, 58, 59, 60, 61, 62, 63, 64, 65, 66, 67, 68, 69, 70, 71, 72, 73, 74, 75, 76, 77, 78, 79, 80, 81, 82, 83, 84, 85, 86, 87, 88, 89, 90, 91, 92, 93, 94, 95, 96, 97, 98, 99, 100, 101, 102, 103, 104] (by decide +kernel) (by decide +kernel)
set_option maxRecDepth 20000 in
theorem gX8_answersTo_X8_rests : GoodIn wsX8_answersTo (wsV RX8 303 RX8 yX8_rests wsX8_rests) := goodIn_app (goodIn_of _ (by decide +kernel)) ggX8_answersTo_X8_rests
set_option maxRecDepth 20000 in
theorem ggX8_answersTo_X8_empties : GoodIn wsX8_answersTo wsX8_empties := goodIn_r _ [36, 3, 58, 59, 60, 61, 62, 63, 64, 65, 66, 67, 68, 69, 70, 71, 72, 73, 74, 75, 76, 77, 78, 79, 80, 81, 82, 83, 84, 85, 86, 87, 88, 89, 90, 91, 92, 93, 94, 95, 96, 97, 98, 99, 100, 101, 102, 103, 104] (by decide +kernel) (by decide +kernel)
set_option maxRecDepth 20000 in
theorem gX8_answersTo_X8_empties : GoodIn wsX8_answersTo (wsV RX8 296 RX8 yX8_empties wsX8_empties) := goodIn_app (goodIn_of _ (by decide +kernel)) ggX8_answersTo_X8_empties
set_option maxRecDepth 20000 in
theorem ggX8_answersTo_X8_closes : GoodIn wsX8_answersTo wsX8_closes := goodIn_r _ [40, 13, 12, 41, 42, 43, 10, 44, 32, 31, 45, 46, 47, 48, 3, 16, 1, 14, 2, 22, 23, 24, 25, 26, 27, 28, 29, 30, 58, 59, 60, 61, 62, 63, 64, 65, 66, 67, 68, 69, 70, 71, 72, 73, 74, 75, 76, 77, 78, 79, 80, 81, 82, 83, 84, 85, 86, 87, 88, 89, 90, 91, 92, 93, 94, 95, 96, 97, 98, 99, 100, 101, 102, 103, 104] (by decide +kernel) (by decide +kernel)
set_option maxRecDepth 20000 in
theorem gX8_answersTo_X8_closes : GoodIn wsX8_answersTo (wsV RX8 299 RX8 yX8_closes wsX8_closes) := goodIn_app (goodIn_of _ (by decide +kernel)) ggX8_answersTo_X8_closes
set_option maxRecDepth 20000 in
theorem ggX8_answersTo_X8_isAnswer : GoodIn wsX8_answersTo wsX8_isAnswer := goodIn_r _ [52, 53, 3, 12, 17, 18, 19, 10, 20, 21, 58, 59, 60, 61, 62, 63, 64, 65, 66, 67, 68, 69, 70, 71, 72, 73, 74, 75, 76, 77, 78, 79, 80, 81, 82, 83, 84, 85, 86, 87, 88, 89, 90, 91, 92, 93, 94, 95, 96, 97, 98, 99, 100, 101, 102, 103, 104] (by decide +kernel) (by decide +kernel)
set_option maxRecDepth 20000 in
theorem gX8_answersTo_X8_isAnswer : GoodIn wsX8_answersTo (wsV RX8 307 RX8 yX8_isAnswer wsX8_isAnswer) := goodIn_app (goodIn_of _ (by decide +kernel)) ggX8_answersTo_X8_isAnswer
set_option maxRecDepth 20000 in
theorem ggX8_answersTo_X8_goesBy : GoodIn wsX8_answersTo wsX8_goesBy := goodIn_r _ [57, 13, 12, 33, 34, 35, 10, 36, 3, 41, 42, 43, 44, 32, 31, 45, 46, 47, 48, 16, 1, 14, 2, 22, 23, 24, 25, 26, 27, 28, 29, 30, 37, 38, 39, 40, 58, 59, 60, 61, 62, 63, 64, 65, 66, 67, 68, 69, 70, 71, 72, 73, 74, 75, 76, 77, 78, 79, 80, 81, 82, 83, 84, 85, 86, 87, 88, 89, 90, 91, 92, 93, 94, 95, 96, 97, 98, 99, 100, 101, 102, 103, 104] (by decide +kernel) (by decide +kernel)
set_option maxRecDepth 20000 in
theorem gX8_answersTo_X8_goesBy : GoodIn wsX8_answersTo (wsV RX8 310 RX8 yX8_goesBy wsX8_goesBy) := goodIn_app (goodIn_of _ (by decide +kernel)) ggX8_answersTo_X8_goesBy
theorem dX8_answersTo_0 : decode cX8_answersTo 0 = .ok (.aload_n 0, 1) := by decide +kernel
theorem dX8_answersTo_1 : decode cX8_answersTo 1 = .ok (.iload_n 1, 1) := by decide +kernel
theorem dX8_answersTo_2 : decode cX8_answersTo 2 = .ok (.iload_n 2, 1) := by decide +kernel
theorem dX8_answersTo_3 : decode cX8_answersTo 3 = .ok (.invokevirtual 303, 3) := by decide +kernel
theorem dX8_answersTo_6 : decode cX8_answersTo 6 = .ok (.aload_n 0, 1) := by decide +kernel
theorem dX8_answersTo_7 : decode cX8_answersTo 7 = .ok (.getfield 96, 3) := by decide +kernel
theorem dX8_answersTo_10 : decode cX8_answersTo 10 = .ok (.iconst 0, 1) := by decide +kernel
theorem dX8_answersTo_11 : decode cX8_answersTo 11 = .ok (.iaload, 1) := by decide +kernel
theorem dX8_answersTo_12 : decode cX8_answersTo 12 = .ok (.ldc_w 284, 3) := by decide +kernel
theorem dX8_answersTo_15 : decode cX8_answersTo 15 = .ok (.if_icmp .ne 5, 3) := by decide +kernel
theorem dX8_answersTo_18 : decode cX8_answersTo 18 = .ok (.iconst 0, 1) := by decide +kernel
theorem dX8_answersTo_19 : decode cX8_answersTo 19 = .ok (.ireturn, 1) := by decide +kernel
theorem dX8_answersTo_20 : decode cX8_answersTo 20 = .ok (.aload_n 0, 1) := by decide +kernel
theorem dX8_answersTo_21 : decode cX8_answersTo 21 = .ok (.iconst 0, 1) := by decide +kernel
theorem dX8_answersTo_22 : decode cX8_answersTo 22 = .ok (.invokevirtual 296, 3) := by decide +kernel
theorem dX8_answersTo_25 : decode cX8_answersTo 25 = .ok (.aload_n 0, 1) := by decide +kernel
theorem dX8_answersTo_26 : decode cX8_answersTo 26 = .ok (.getfield 106, 3) := by decide +kernel
theorem dX8_answersTo_29 : decode cX8_answersTo 29 = .ok (.iconst 0, 1) := by decide +kernel
theorem dX8_answersTo_30 : decode cX8_answersTo 30 = .ok (.iconst 1, 1) := by decide +kernel
theorem dX8_answersTo_31 : decode cX8_answersTo 31 = .ok (.bastore, 1) := by decide +kernel
theorem dX8_answersTo_32 : decode cX8_answersTo 32 = .ok (.aload_n 0, 1) := by decide +kernel
theorem dX8_answersTo_33 : decode cX8_answersTo 33 = .ok (.iload_n 1, 1) := by decide +kernel
theorem dX8_answersTo_34 : decode cX8_answersTo 34 = .ok (.iload_n 2, 1) := by decide +kernel
theorem dX8_answersTo_35 : decode cX8_answersTo 35 = .ok (.iconst 0, 1) := by decide +kernel
theorem dX8_answersTo_36 : decode cX8_answersTo 36 = .ok (.invokevirtual 299, 3) := by decide +kernel
theorem dX8_answersTo_39 : decode cX8_answersTo 39 = .ok (.iconst 0, 1) := by decide +kernel
theorem dX8_answersTo_40 : decode cX8_answersTo 40 = .ok (.istore 4, 2) := by decide +kernel
theorem dX8_answersTo_42 : decode cX8_answersTo 42 = .ok (.aload_n 0, 1) := by decide +kernel
theorem dX8_answersTo_43 : decode cX8_answersTo 43 = .ok (.getfield 109, 3) := by decide +kernel
theorem dX8_answersTo_46 : decode cX8_answersTo 46 = .ok (.iconst 0, 1) := by decide +kernel
theorem dX8_answersTo_47 : decode cX8_answersTo 47 = .ok (.iconst (-1), 1) := by decide +kernel
theorem dX8_answersTo_48 : decode cX8_answersTo 48 = .ok (.iastore, 1) := by decide +kernel
theorem dX8_answersTo_49 : decode cX8_answersTo 49 = .ok (.aload_n 0, 1) := by decide +kernel
theorem dX8_answersTo_50 : decode cX8_answersTo 50 = .ok (.iload_n 1, 1) := by decide +kernel
theorem dX8_answersTo_51 : decode cX8_answersTo 51 = .ok (.iconst 0, 1) := by decide +kernel
theorem dX8_answersTo_52 : decode cX8_answersTo 52 = .ok (.invokevirtual 307, 3) := by decide +kernel
theorem dX8_answersTo_55 : decode cX8_answersTo 55 = .ok (.ifCond .eq 7, 3) := by decide +kernel
theorem dX8_answersTo_58 : decode cX8_answersTo 58 = .ok (.iconst 1, 1) := by decide +kernel
theorem dX8_answersTo_59 : decode cX8_answersTo 59 = .ok (.goto 4, 3) := by decide +kernel
theorem dX8_answersTo_62 : decode cX8_answersTo 62 = .ok (.iconst 0, 1) := by decide +kernel
theorem dX8_answersTo_63 : decode cX8_answersTo 63 = .ok (.istore 5, 2) := by decide +kernel
theorem dX8_answersTo_65 : decode cX8_answersTo 65 = .ok (.iload 5, 2) := by decide +kernel
theorem dX8_answersTo_67 : decode cX8_answersTo 67 = .ok (.iload_n 3, 1) := by decide +kernel
theorem dX8_answersTo_68 : decode cX8_answersTo 68 = .ok (.if_icmp .gt 103, 3) := by decide +kernel
theorem dX8_answersTo_71 : decode cX8_answersTo 71 = .ok (.iload 4, 2) := by decide +kernel
theorem dX8_answersTo_73 : decode cX8_answersTo 73 = .ok (.ifCond .lt 98, 3) := by decide +kernel
theorem dX8_answersTo_76 : decode cX8_answersTo 76 = .ok (.aload_n 0, 1) := by decide +kernel
theorem dX8_answersTo_77 : decode cX8_answersTo 77 = .ok (.getfield 109, 3) := by decide +kernel
theorem dX8_answersTo_80 : decode cX8_answersTo 80 = .ok (.iload 4, 2) := by decide +kernel
theorem dX8_answersTo_82 : decode cX8_answersTo 82 = .ok (.dup2, 1) := by decide +kernel
theorem dX8_answersTo_83 : decode cX8_answersTo 83 = .ok (.iaload, 1) := by decide +kernel
theorem dX8_answersTo_84 : decode cX8_answersTo 84 = .ok (.iconst 1, 1) := by decide +kernel
theorem dX8_answersTo_85 : decode cX8_answersTo 85 = .ok (.iadd, 1) := by decide +kernel
theorem dX8_answersTo_86 : decode cX8_answersTo 86 = .ok (.iastore, 1) := by decide +kernel
theorem dX8_answersTo_87 : decode cX8_answersTo 87 = .ok (.aload_n 0, 1) := by decide +kernel
theorem dX8_answersTo_88 : decode cX8_answersTo 88 = .ok (.getfield 109, 3) := by decide +kernel
theorem dX8_answersTo_91 : decode cX8_answersTo 91 = .ok (.iload 4, 2) := by decide +kernel
theorem dX8_answersTo_93 : decode cX8_answersTo 93 = .ok (.iaload, 1) := by decide +kernel
theorem dX8_answersTo_94 : decode cX8_answersTo 94 = .ok (.bipush 8, 2) := by decide +kernel
theorem dX8_answersTo_96 : decode cX8_answersTo 96 = .ok (.if_icmp .ne 9, 3) := by decide +kernel
theorem dX8_answersTo_99 : decode cX8_answersTo 99 = .ok (.iinc 4 (-1), 3) := by decide +kernel
theorem dX8_answersTo_102 : decode cX8_answersTo 102 = .ok (.goto (-37), 3) := by decide +kernel
theorem dX8_answersTo_105 : decode cX8_answersTo 105 = .ok (.aload_n 0, 1) := by decide +kernel
theorem dX8_answersTo_106 : decode cX8_answersTo 106 = .ok (.iload_n 1, 1) := by decide +kernel
theorem dX8_answersTo_107 : decode cX8_answersTo 107 = .ok (.iload_n 2, 1) := by decide +kernel
theorem dX8_answersTo_108 : decode cX8_answersTo 108 = .ok (.iload 4, 2) := by decide +kernel
theorem dX8_answersTo_110 : decode cX8_answersTo 110 = .ok (.aload_n 0, 1) := by decide +kernel
theorem dX8_answersTo_111 : decode cX8_answersTo 111 = .ok (.getfield 109, 3) := by decide +kernel
theorem dX8_answersTo_114 : decode cX8_answersTo 114 = .ok (.iload 4, 2) := by decide +kernel
theorem dX8_answersTo_116 : decode cX8_answersTo 116 = .ok (.iaload, 1) := by decide +kernel
theorem dX8_answersTo_117 : decode cX8_answersTo 117 = .ok (.invokevirtual 310, 3) := by decide +kernel
theorem dX8_answersTo_120 : decode cX8_answersTo 120 = .ok (.ifCond .eq (-55), 3) := by decide +kernel
theorem dX8_answersTo_123 : decode cX8_answersTo 123 = .ok (.aload_n 0, 1) := by decide +kernel
theorem dX8_answersTo_124 : decode cX8_answersTo 124 = .ok (.getfield 112, 3) := by decide +kernel
theorem dX8_answersTo_127 : decode cX8_answersTo 127 = .ok (.iload 4, 2) := by decide +kernel
theorem dX8_answersTo_129 : decode cX8_answersTo 129 = .ok (.aload_n 0, 1) := by decide +kernel
theorem dX8_answersTo_130 : decode cX8_answersTo 130 = .ok (.getfield 109, 3) := by decide +kernel
theorem dX8_answersTo_133 : decode cX8_answersTo 133 = .ok (.iload 4, 2) := by decide +kernel
theorem dX8_answersTo_135 : decode cX8_answersTo 135 = .ok (.iaload, 1) := by decide +kernel
theorem dX8_answersTo_136 : decode cX8_answersTo 136 = .ok (.iastore, 1) := by decide +kernel
theorem dX8_answersTo_137 : decode cX8_answersTo 137 = .ok (.iinc 4 1, 3) := by decide +kernel
theorem dX8_answersTo_140 : decode cX8_answersTo 140 = .ok (.aload_n 0, 1) := by decide +kernel
theorem dX8_answersTo_141 : decode cX8_answersTo 141 = .ok (.getfield 109, 3) := by decide +kernel
theorem dX8_answersTo_144 : decode cX8_answersTo 144 = .ok (.iload 4, 2) := by decide +kernel
theorem dX8_answersTo_146 : decode cX8_answersTo 146 = .ok (.iconst (-1), 1) := by decide +kernel
theorem dX8_answersTo_147 : decode cX8_answersTo 147 = .ok (.iastore, 1) := by decide +kernel
theorem dX8_answersTo_148 : decode cX8_answersTo 148 = .ok (.iload 5, 2) := by decide +kernel
theorem dX8_answersTo_150 : decode cX8_answersTo 150 = .ok (.aload_n 0, 1) := by decide +kernel
theorem dX8_answersTo_151 : decode cX8_answersTo 151 = .ok (.iload_n 1, 1) := by decide +kernel
theorem dX8_answersTo_152 : decode cX8_answersTo 152 = .ok (.iload 4, 2) := by decide +kernel
theorem dX8_answersTo_154 : decode cX8_answersTo 154 = .ok (.invokevirtual 307, 3) := by decide +kernel
theorem dX8_answersTo_157 : decode cX8_answersTo 157 = .ok (.ifCond .eq 7, 3) := by decide +kernel
theorem dX8_answersTo_160 : decode cX8_answersTo 160 = .ok (.iconst 1, 1) := by decide +kernel
theorem dX8_answersTo_161 : decode cX8_answersTo 161 = .ok (.goto 4, 3) := by decide +kernel
theorem dX8_answersTo_164 : decode cX8_answersTo 164 = .ok (.iconst 0, 1) := by decide +kernel
theorem dX8_answersTo_165 : decode cX8_answersTo 165 = .ok (.iadd, 1) := by decide +kernel
theorem dX8_answersTo_166 : decode cX8_answersTo 166 = .ok (.istore 5, 2) := by decide +kernel
theorem dX8_answersTo_168 : decode cX8_answersTo 168 = .ok (.goto (-103), 3) := by decide +kernel
theorem dX8_answersTo_171 : decode cX8_answersTo 171 = .ok (.aload_n 0, 1) := by decide +kernel
theorem dX8_answersTo_172 : decode cX8_answersTo 172 = .ok (.iload 4, 2) := by decide +kernel
theorem dX8_answersTo_174 : decode cX8_answersTo 174 = .ok (.putfield 314, 3) := by decide +kernel
theorem dX8_answersTo_177 : decode cX8_answersTo 177 = .ok (.iload 5, 2) := by decide +kernel
theorem dX8_answersTo_179 : decode cX8_answersTo 179 = .ok (.ireturn, 1) := by decide +kernel
theorem dX8_letterAt_0 : decode cX8_letterAt 0 = .ok (.iload_n 1, 1) := by decide +kernel
theorem dX8_letterAt_1 : decode cX8_letterAt 1 = .ok (.aload_n 0, 1) := by decide +kernel
theorem dX8_letterAt_2 : decode cX8_letterAt 2 = .ok (.getfield 314, 3) := by decide +kernel
theorem dX8_letterAt_5 : decode cX8_letterAt 5 = .ok (.if_icmp .ge 12, 3) := by decide +kernel
theorem dX8_letterAt_8 : decode cX8_letterAt 8 = .ok (.aload_n 0, 1) := by decide +kernel
theorem dX8_letterAt_9 : decode cX8_letterAt 9 = .ok (.getfield 112, 3) := by decide +kernel
theorem dX8_letterAt_12 : decode cX8_letterAt 12 = .ok (.iload_n 1, 1) := by decide +kernel
theorem dX8_letterAt_13 : decode cX8_letterAt 13 = .ok (.iaload, 1) := by decide +kernel
theorem dX8_letterAt_14 : decode cX8_letterAt 14 = .ok (.goto 5, 3) := by decide +kernel
theorem dX8_letterAt_17 : decode cX8_letterAt 17 = .ok (.bipush 8, 2) := by decide +kernel
theorem dX8_letterAt_19 : decode cX8_letterAt 19 = .ok (.ireturn, 1) := by decide +kernel
set_option maxRecDepth 20000 in
theorem ggX8_answer_X8_isMachine : GoodIn wsX8_answer wsX8_isMachine := goodIn_r _ [5, 6, 7, 8, 4, 9, 79, 80, 81, 82, 83, 84, 85, 86, 87, 88, 89, 90, 91, 92, 93, 94, 95, 96, 97, 98, 99, 100, 101, 102, 103, 104, 105, 106, 107, 108, 109, 110, 111, 112, 113, 114, 115, 116, 117, 118, 119, 120, 121, 122, 123, 124, 125] (by decide +kernel) (by decide +kernel)
set_option maxRecDepth 20000 in
theorem gX8_answer_X8_isMachine : GoodIn wsX8_answer (wsV RX8 204 RX8 yX8_isMachine wsX8_isMachine) := goodIn_app (goodIn_of _ (by decide +kernel)) ggX8_answer_X8_isMachine
set_option maxRecDepth 20000 in
theorem ggX8_answer_X8_isIn : GoodIn wsX8_answer wsX8_isIn := goodIn_r _ [9] (by decide +kernel) (by decide +kernel)
set_option maxRecDepth 20000 in
theorem gX8_answer_X8_isIn : GoodIn wsX8_answer (va_wsS RX8 131 yX8_isIn wsX8_isIn) := goodIn_app (goodIn_of _ (by decide +kernel)) ggX8_answer_X8_isIn
set_option maxRecDepth 20000 in
theorem ggX8_answer_X8_isFine : GoodIn wsX8_answer wsX8_isFine := goodIn_r _ [13, 14, 79, 80, 81, 82, 83, 84, 85, 86, 87, 88, 89, 90, 91, 92, 93, 94, 95, 96, 97, 98, 99, 100, 101, 102, 103, 104, 105, 106, 107, 108, 109, 110, 111, 112, 113, 114, 115, 116, 117, 118, 119, 120, 121, 122, 123, 124, 125] (by decide +kernel) (by decide +kernel)
set_option maxRecDepth 20000 in
theorem gX8_answer_X8_isFine : GoodIn wsX8_answer (wsV RX8 138 RX8 yX8_isFine wsX8_isFine) := goodIn_app (goodIn_of _ (by decide +kernel)) ggX8_answer_X8_isFine
set_option maxRecDepth 20000 in
theorem ggX8_answer_X8_answersTo : GoodIn wsX8_answer wsX8_answersTo := goodIn_r _ [18, 19, 20, 21, 22, 23, 24, 25, 26, 27, 4, 28, 29, 30, 31, 32, 33, 34, 35, 36, 37, 38, 39, 40, 41, 42, 43, 44, 45, 46, 47, 48, 49, 50, 51, 52, 53, 54, 55, 56, 57, 58, 59, 60, 61, 62, 63, 64, 65, 66, 67, 68, 69, 70, 71, 72, 73, 74, 79, 80, 81, 82, 83, 84, 85, 86, 87, 88, 89, 90, 91, 92, 93, 94, 95, 96, 97, 98, 99, 100, 101, 102, 103, 104, 105, 106, 107, 108, 109, 110, 111, 112, 113, 114, 115, 116, 117, 118, 119, 120, 121, 122, 123, 124, 125] (by decide +kernel) (by decide +kernel)
set_option maxRecDepth 20000 in
theorem gX8_answer_X8_answersTo : GoodIn wsX8_answer (wsV RX8 317 RX8 yX8_answersTo wsX8_answersTo) := goodIn_app (goodIn_of _ (by decide +kernel)) ggX8_answer_X8_answersTo
set_option maxRecDepth 20000 in
theorem ggX8_answer_X8_letterAt : GoodIn wsX8_answer wsX8_letterAt := goodIn_r _ [78, 24, 23, 79, 80, 81, 82, 83, 84, 85, 86, 87, 88, 89, 90, 91, 92, 93, 94, 95, 96, 97, 98, 99, 100, 101, 102, 103, 104, 105, 106, 107, 108, 109, 110, 111, 112, 113, 114, 115, 116, 117, 118, 119, 120, 121, 122, 123, 124, 125] (by decide +kernel) (by decide +kernel)
set_option maxRecDepth 20000 in
theorem gX8_answer_X8_letterAt : GoodIn wsX8_answer (wsV RX8 321 RX8 yX8_letterAt wsX8_letterAt) := goodIn_app (goodIn_of _ (by decide +kernel)) ggX8_answer_X8_letterAt
theorem dX8_answer_0 : decode cX8_answer 0 = .ok (.aload_n 0, 1) := by decide +kernel
theorem dX8_answer_1 : decode cX8_answer 1 = .ok (.iload_n 1, 1) := by decide +kernel
theorem dX8_answer_2 : decode cX8_answer 2 = .ok (.invokevirtual 204, 3) := by decide +kernel
theorem dX8_answer_5 : decode cX8_answer 5 = .ok (.ifCond .eq 12, 3) := by decide +kernel
theorem dX8_answer_8 : decode cX8_answer 8 = .ok (.iload 4, 2) := by decide +kernel
theorem dX8_answer_10 : decode cX8_answer 10 = .ok (.ifCond .lt 7, 3) := by decide +kernel
theorem dX8_answer_13 : decode cX8_answer 13 = .ok (.iconst 1, 1) := by decide +kernel
theorem dX8_answer_14 : decode cX8_answer 14 = .ok (.goto 4, 3) := by decide +kernel
theorem dX8_answer_17 : decode cX8_answer 17 = .ok (.iconst 0, 1) := by decide +kernel
theorem dX8_answer_18 : decode cX8_answer 18 = .ok (.istore 5, 2) := by decide +kernel
theorem dX8_answer_20 : decode cX8_answer 20 = .ok (.aload_n 0, 1) := by decide +kernel
theorem dX8_answer_21 : decode cX8_answer 21 = .ok (.iload 5, 2) := by decide +kernel
theorem dX8_answer_23 : decode cX8_answer 23 = .ok (.ifCond .ne 7, 3) := by decide +kernel
theorem dX8_answer_26 : decode cX8_answer 26 = .ok (.iconst 1, 1) := by decide +kernel
theorem dX8_answer_27 : decode cX8_answer 27 = .ok (.goto 18, 3) := by decide +kernel
theorem dX8_answer_30 : decode cX8_answer 30 = .ok (.iload_n 3, 1) := by decide +kernel
theorem dX8_answer_31 : decode cX8_answer 31 = .ok (.iconst 0, 1) := by decide +kernel
theorem dX8_answer_32 : decode cX8_answer 32 = .ok (.bipush 19, 2) := by decide +kernel
theorem dX8_answer_34 : decode cX8_answer 34 = .ok (.invokestatic 131, 3) := by decide +kernel
theorem dX8_answer_37 : decode cX8_answer 37 = .ok (.ifCond .ne 7, 3) := by decide +kernel
theorem dX8_answer_40 : decode cX8_answer 40 = .ok (.iconst 2, 1) := by decide +kernel
theorem dX8_answer_41 : decode cX8_answer 41 = .ok (.goto 4, 3) := by decide +kernel
theorem dX8_answer_44 : decode cX8_answer 44 = .ok (.iconst 0, 1) := by decide +kernel
theorem dX8_answer_45 : decode cX8_answer 45 = .ok (.invokevirtual 138, 3) := by decide +kernel
theorem dX8_answer_48 : decode cX8_answer 48 = .ok (.ifCond .ne 5, 3) := by decide +kernel
theorem dX8_answer_51 : decode cX8_answer 51 = .ok (.iconst 0, 1) := by decide +kernel
theorem dX8_answer_52 : decode cX8_answer 52 = .ok (.ireturn, 1) := by decide +kernel
theorem dX8_answer_53 : decode cX8_answer 53 = .ok (.aload_n 0, 1) := by decide +kernel
theorem dX8_answer_54 : decode cX8_answer 54 = .ok (.iload_n 1, 1) := by decide +kernel
theorem dX8_answer_55 : decode cX8_answer 55 = .ok (.iload_n 2, 1) := by decide +kernel
theorem dX8_answer_56 : decode cX8_answer 56 = .ok (.iload_n 3, 1) := by decide +kernel
theorem dX8_answer_57 : decode cX8_answer 57 = .ok (.invokevirtual 317, 3) := by decide +kernel
theorem dX8_answer_60 : decode cX8_answer 60 = .ok (.iload_n 3, 1) := by decide +kernel
theorem dX8_answer_61 : decode cX8_answer 61 = .ok (.if_icmp .le 12, 3) := by decide +kernel
theorem dX8_answer_64 : decode cX8_answer 64 = .ok (.aload_n 0, 1) := by decide +kernel
theorem dX8_answer_65 : decode cX8_answer 65 = .ok (.iload 4, 2) := by decide +kernel
theorem dX8_answer_67 : decode cX8_answer 67 = .ok (.invokevirtual 321, 3) := by decide +kernel
theorem dX8_answer_70 : decode cX8_answer 70 = .ok (.goto 4, 3) := by decide +kernel
theorem dX8_answer_73 : decode cX8_answer 73 = .ok (.iconst (-1), 1) := by decide +kernel
theorem dX8_answer_74 : decode cX8_answer 74 = .ok (.ireturn, 1) := by decide +kernel
set_option maxRecDepth 20000 in
theorem ggX8_answers_X8_isMachine : GoodIn wsX8_answers wsX8_isMachine := goodIn_r _ [5, 6, 7, 8, 4, 9, 75, 76, 77, 78, 79, 80, 81, 82, 83, 84, 85, 86, 87, 88, 89, 90, 91, 92, 93, 94, 95, 96, 97, 98, 99, 100, 101, 102, 103, 104, 105, 106, 107, 108, 109, 110, 111, 112, 113, 114, 115, 116, 117, 118, 119, 120, 121] (by decide +kernel) (by decide +kernel)
set_option maxRecDepth 20000 in
theorem gX8_answers_X8_isMachine : GoodIn wsX8_answers (wsV RX8 204 RX8 yX8_isMachine wsX8_isMachine) := goodIn_app (goodIn_of _ (by decide +kernel)) ggX8_answers_X8_isMachine
set_option maxRecDepth 20000 in
theorem ggX8_answers_X8_isFine : GoodIn wsX8_answers wsX8_isFine := goodIn_r _ [13, 14, 75, 76, 77, 78, 79, 80, 81, 82, 83, 84, 85, 86, 87, 88, 89, 90, 91, 92, 93, 94, 95, 96, 97, 98, 99, 100, 101, 102, 103, 104, 105, 106, 107, 108, 109, 110, 111, 112, 113, 114, 115, 116, 117, 118, 119, 120, 121] (by decide +kernel) (by decide +kernel)
set_option maxRecDepth 20000 in
theorem gX8_answers_X8_isFine : GoodIn wsX8_answers (wsV RX8 138 RX8 yX8_isFine wsX8_isFine) := goodIn_app (goodIn_of _ (by decide +kernel)) ggX8_answers_X8_isFine
set_option maxRecDepth 20000 in
theorem ggX8_answers_X8_answersTo : GoodIn wsX8_answers wsX8_answersTo := goodIn_r _ [18, 19, 20, 21, 22, 23, 24, 25, 26, 27, 4, 28, 29, 30, 31, 32, 33, 34, 35, 36, 37, 38, 39, 40, 41, 42, 43, 44, 45, 46, 47, 48, 49, 50, 51, 52, 53, 54, 55, 56, 57, 58, 59, 60, 61, 62, 63, 64, 65, 66, 67, 68, 69, 70, 71, 72, 73, 74, 75, 76, 77, 78, 79, 80, 81, 82, 83, 84, 85, 86, 87, 88, 89, 90, 91, 92, 93, 94, 95, 96, 97, 98, 99, 100, 101, 102, 103, 104, 105, 106, 107, 108, 109, 110, 111, 112, 113, 114, 115, 116, 117, 118, 119, 120, 121] (by decide +kernel) (by decide +kernel)
set_option maxRecDepth 20000 in
theorem gX8_answers_X8_answersTo : GoodIn wsX8_answers (wsV RX8 317 RX8 yX8_answersTo wsX8_answersTo) := goodIn_app (goodIn_of _ (by decide +kernel)) ggX8_answers_X8_answersTo
theorem dX8_answers_0 : decode cX8_answers 0 = .ok (.aload_n 0, 1) := by decide +kernel
theorem dX8_answers_1 : decode cX8_answers 1 = .ok (.aload_n 0, 1) := by decide +kernel
theorem dX8_answers_2 : decode cX8_answers 2 = .ok (.iload_n 1, 1) := by decide +kernel
theorem dX8_answers_3 : decode cX8_answers 3 = .ok (.invokevirtual 204, 3) := by decide +kernel
theorem dX8_answers_6 : decode cX8_answers 6 = .ok (.ifCond .eq 7, 3) := by decide +kernel
theorem dX8_answers_9 : decode cX8_answers 9 = .ok (.iconst 0, 1) := by decide +kernel
theorem dX8_answers_10 : decode cX8_answers 10 = .ok (.goto 4, 3) := by decide +kernel
theorem dX8_answers_13 : decode cX8_answers 13 = .ok (.iconst 1, 1) := by decide +kernel
theorem dX8_answers_14 : decode cX8_answers 14 = .ok (.invokevirtual 138, 3) := by decide +kernel
theorem dX8_answers_17 : decode cX8_answers 17 = .ok (.ifCond .eq 14, 3) := by decide +kernel
theorem dX8_answers_20 : decode cX8_answers 20 = .ok (.aload_n 0, 1) := by decide +kernel
theorem dX8_answers_21 : decode cX8_answers 21 = .ok (.iload_n 1, 1) := by decide +kernel
theorem dX8_answers_22 : decode cX8_answers 22 = .ok (.iload_n 2, 1) := by decide +kernel
theorem dX8_answers_23 : decode cX8_answers 23 = .ok (.bipush 19, 2) := by decide +kernel
theorem dX8_answers_25 : decode cX8_answers 25 = .ok (.invokevirtual 317, 3) := by decide +kernel
theorem dX8_answers_28 : decode cX8_answers 28 = .ok (.goto 4, 3) := by decide +kernel
theorem dX8_answers_31 : decode cX8_answers 31 = .ok (.iconst 0, 1) := by decide +kernel
theorem dX8_answers_32 : decode cX8_answers 32 = .ok (.ireturn, 1) := by decide +kernel
set_option maxRecDepth 20000 in
theorem ggX8_cost_X8_isMachine : GoodIn wsX8_cost wsX8_isMachine := goodIn_r _ [7, 8, 9, 10, 6, 11, 42, 43, 44, 45, 46, 47, 48, 49, 50, 51, 52, 53, 54, 55, 56, 57, 58, 59, 60, 61, 62, 63, 64, 65, 66, 67, 68, 69, 70, 71, 72, 73, 74, 75, 76, 77, 78, 79, 80, 81, 82, 83, 84, 85, 86, 87, 88] (by decide +kernel) (by decide +kernel)
set_option maxRecDepth 20000 in
theorem gX8_cost_X8_isMachine : GoodIn wsX8_cost (wsV RX8 204 RX8 yX8_isMachine wsX8_isMachine) := goodIn_app (goodIn_of _ (by decide +kernel)) ggX8_cost_X8_isMachine
set_option maxRecDepth 20000 in
theorem ggX8_cost_X8_isFine : GoodIn wsX8_cost wsX8_isFine := goodIn_r _ [15, 16, 42, 43, 44, 45, 46, 47, 48, 49, 50, 51, 52, 53, 54, 55, 56, 57, 58, 59, 60, 61, 62, 63, 64, 65, 66, 67, 68, 69, 70, 71, 72, 73, 74, 75, 76, 77, 78, 79, 80, 81, 82, 83, 84, 85, 86, 87, 88] (by decide +kernel) (by decide +kernel)
set_option maxRecDepth 20000 in
theorem gX8_cost_X8_isFine : GoodIn wsX8_cost (wsV RX8 138 RX8 yX8_isFine wsX8_isFine) := goodIn_app (goodIn_of _ (by decide +kernel)) ggX8_cost_X8_isFine
set_option maxRecDepth 20000 in
theorem ggX8_cost_X8_rests : GoodIn wsX8_cost wsX8_rests := goodIn_r _ [20, 1, 21, 2, 22, 23, 24, 25, 26, 27, 28, 6, 29, 30, 31, 32, 33, 34, 35, 36, 37, 38, 39, 40, 41, 42, 43, 44, 45, 46, 47, 48, 49, 50, 51, 52, 53, 54, 55, 56, 57, 58, 59, 60, 61, 62, 63, 64, 65, 66, 67, 68, 69, 70, 71, 72, 73, 74, 75, 76, 77, 78, 79, 80, 81, 82, 83, 84, 85, 86, 87, 88] (by decide +kernel) (by decide +kernel)
set_option maxRecDepth 20000 in
theorem gX8_cost_X8_rests : GoodIn wsX8_cost (wsV RX8 303 RX8 yX8_rests wsX8_rests) := goodIn_app (goodIn_of _ (by decide +kernel)) ggX8_cost_X8_rests
theorem dX8_cost_0 : decode cX8_cost 0 = .ok (.aload_n 0, 1) := by decide +kernel
theorem dX8_cost_1 : decode cX8_cost 1 = .ok (.aload_n 0, 1) := by decide +kernel
theorem dX8_cost_2 : decode cX8_cost 2 = .ok (.iload_n 1, 1) := by decide +kernel
theorem dX8_cost_3 : decode cX8_cost 3 = .ok (.invokevirtual 204, 3) := by decide +kernel
theorem dX8_cost_6 : decode cX8_cost 6 = .ok (.ifCond .eq 7, 3) := by decide +kernel
theorem dX8_cost_9 : decode cX8_cost 9 = .ok (.iconst 0, 1) := by decide +kernel
theorem dX8_cost_10 : decode cX8_cost 10 = .ok (.goto 4, 3) := by decide +kernel
theorem dX8_cost_13 : decode cX8_cost 13 = .ok (.iconst 1, 1) := by decide +kernel
theorem dX8_cost_14 : decode cX8_cost 14 = .ok (.invokevirtual 138, 3) := by decide +kernel
theorem dX8_cost_17 : decode cX8_cost 17 = .ok (.ifCond .ne 5, 3) := by decide +kernel
theorem dX8_cost_20 : decode cX8_cost 20 = .ok (.iconst 0, 1) := by decide +kernel
theorem dX8_cost_21 : decode cX8_cost 21 = .ok (.ireturn, 1) := by decide +kernel
theorem dX8_cost_22 : decode cX8_cost 22 = .ok (.aload_n 0, 1) := by decide +kernel
theorem dX8_cost_23 : decode cX8_cost 23 = .ok (.iload_n 1, 1) := by decide +kernel
theorem dX8_cost_24 : decode cX8_cost 24 = .ok (.iload_n 2, 1) := by decide +kernel
theorem dX8_cost_25 : decode cX8_cost 25 = .ok (.invokevirtual 303, 3) := by decide +kernel
theorem dX8_cost_28 : decode cX8_cost 28 = .ok (.aload_n 0, 1) := by decide +kernel
theorem dX8_cost_29 : decode cX8_cost 29 = .ok (.getfield 96, 3) := by decide +kernel
theorem dX8_cost_32 : decode cX8_cost 32 = .ok (.iconst 0, 1) := by decide +kernel
theorem dX8_cost_33 : decode cX8_cost 33 = .ok (.iaload, 1) := by decide +kernel
theorem dX8_cost_34 : decode cX8_cost 34 = .ok (.ldc_w 284, 3) := by decide +kernel
theorem dX8_cost_37 : decode cX8_cost 37 = .ok (.if_icmp .ne 7, 3) := by decide +kernel
theorem dX8_cost_40 : decode cX8_cost 40 = .ok (.iconst (-1), 1) := by decide +kernel
theorem dX8_cost_41 : decode cX8_cost 41 = .ok (.goto 9, 3) := by decide +kernel
theorem dX8_cost_44 : decode cX8_cost 44 = .ok (.aload_n 0, 1) := by decide +kernel
theorem dX8_cost_45 : decode cX8_cost 45 = .ok (.getfield 96, 3) := by decide +kernel
theorem dX8_cost_48 : decode cX8_cost 48 = .ok (.iconst 0, 1) := by decide +kernel
theorem dX8_cost_49 : decode cX8_cost 49 = .ok (.iaload, 1) := by decide +kernel
theorem dX8_cost_50 : decode cX8_cost 50 = .ok (.ireturn, 1) := by decide +kernel
set_option maxRecDepth 20000 in
theorem ggX8_closesHere_X8_outOf : GoodIn wsX8_closesHere wsX8_outOf := goodIn_r _ [12, 13, 14, 24, 25, 26, 27, 28, 29, 30, 31, 32, 33, 34, 35, 36, 37, 38, 39, 40, 41, 42, 43, 44, 45, 46, 47, 48, 49, 50, 51, 52, 53, 54, 55, 56, 57, 58, 59, 60, 61, 62, 63, 64, 65, 66, 67, 68, 69, 70] (by decide +kernel) (by decide +kernel)
set_option maxRecDepth 20000 in
theorem gX8_closesHere_X8_outOf : GoodIn wsX8_closesHere (wsV RX8 289 RX8 yX8_outOf wsX8_outOf) := goodIn_app (goodIn_of _ (by decide +kernel)) ggX8_closesHere_X8_outOf
set_option maxRecDepth 20000 in
theorem ggX8_closesHere_X8_behind : GoodIn wsX8_closesHere wsX8_behind := goodIn_r _ [18, 2, 19, 20, 21, 22, 11, 23, 14, 13, 24, 25, 26, 27, 28, 29, 30, 31, 32, 33, 34, 35, 36, 37, 38, 39, 40, 41, 42, 43, 44, 45, 46, 47, 48, 49, 50, 51, 52, 53, 54, 55, 56, 57, 58, 59, 60, 61, 62, 63, 64, 65, 66, 67, 68, 69, 70] (by decide +kernel) (by decide +kernel)
set_option maxRecDepth 20000 in
theorem gX8_closesHere_X8_behind : GoodIn wsX8_closesHere (wsV RX8 285 RX8 yX8_behind wsX8_behind) := goodIn_app (goodIn_of _ (by decide +kernel)) ggX8_closesHere_X8_behind
theorem dX8_closesHere_0 : decode cX8_closesHere 0 = .ok (.iconst 1, 1) := by decide +kernel
theorem dX8_closesHere_1 : decode cX8_closesHere 1 = .ok (.istore_n 3, 1) := by decide +kernel
theorem dX8_closesHere_2 : decode cX8_closesHere 2 = .ok (.iload_n 3, 1) := by decide +kernel
theorem dX8_closesHere_3 : decode cX8_closesHere 3 = .ok (.ifCond .eq 219, 3) := by decide +kernel
theorem dX8_closesHere_6 : decode cX8_closesHere 6 = .ok (.iconst 0, 1) := by decide +kernel
theorem dX8_closesHere_7 : decode cX8_closesHere 7 = .ok (.istore_n 3, 1) := by decide +kernel
theorem dX8_closesHere_8 : decode cX8_closesHere 8 = .ok (.sipush 160, 3) := by decide +kernel
theorem dX8_closesHere_11 : decode cX8_closesHere 11 = .ok (.iload_n 1, 1) := by decide +kernel
theorem dX8_closesHere_12 : decode cX8_closesHere 12 = .ok (.imul, 1) := by decide +kernel
theorem dX8_closesHere_13 : decode cX8_closesHere 13 = .ok (.istore 4, 2) := by decide +kernel
theorem dX8_closesHere_15 : decode cX8_closesHere 15 = .ok (.iload 4, 2) := by decide +kernel
theorem dX8_closesHere_17 : decode cX8_closesHere 17 = .ok (.sipush 160, 3) := by decide +kernel
theorem dX8_closesHere_20 : decode cX8_closesHere 20 = .ok (.iload_n 1, 1) := by decide +kernel
theorem dX8_closesHere_21 : decode cX8_closesHere 21 = .ok (.imul, 1) := by decide +kernel
theorem dX8_closesHere_22 : decode cX8_closesHere 22 = .ok (.aload_n 0, 1) := by decide +kernel
theorem dX8_closesHere_23 : decode cX8_closesHere 23 = .ok (.getfield 19, 3) := by decide +kernel
theorem dX8_closesHere_26 : decode cX8_closesHere 26 = .ok (.iload_n 1, 1) := by decide +kernel
theorem dX8_closesHere_27 : decode cX8_closesHere 27 = .ok (.iaload, 1) := by decide +kernel
theorem dX8_closesHere_28 : decode cX8_closesHere 28 = .ok (.iadd, 1) := by decide +kernel
theorem dX8_closesHere_29 : decode cX8_closesHere 29 = .ok (.if_icmp .ge 190, 3) := by decide +kernel
theorem dX8_closesHere_32 : decode cX8_closesHere 32 = .ok (.iconst 0, 1) := by decide +kernel
theorem dX8_closesHere_33 : decode cX8_closesHere 33 = .ok (.istore 5, 2) := by decide +kernel
theorem dX8_closesHere_35 : decode cX8_closesHere 35 = .ok (.iload 5, 2) := by decide +kernel
theorem dX8_closesHere_37 : decode cX8_closesHere 37 = .ok (.aload_n 0, 1) := by decide +kernel
theorem dX8_closesHere_38 : decode cX8_closesHere 38 = .ok (.getfield 135, 3) := by decide +kernel
theorem dX8_closesHere_41 : decode cX8_closesHere 41 = .ok (.if_icmp .gt 172, 3) := by decide +kernel
theorem dX8_closesHere_44 : decode cX8_closesHere 44 = .ok (.aload_n 0, 1) := by decide +kernel
theorem dX8_closesHere_45 : decode cX8_closesHere 45 = .ok (.iload 4, 2) := by decide +kernel
theorem dX8_closesHere_47 : decode cX8_closesHere 47 = .ok (.iload_n 2, 1) := by decide +kernel
theorem dX8_closesHere_48 : decode cX8_closesHere 48 = .ok (.invokevirtual 289, 3) := by decide +kernel
theorem dX8_closesHere_51 : decode cX8_closesHere 51 = .ok (.bipush 8, 2) := by decide +kernel
theorem dX8_closesHere_53 : decode cX8_closesHere 53 = .ok (.if_icmp .ne 160, 3) := by decide +kernel
theorem dX8_closesHere_56 : decode cX8_closesHere 56 = .ok (.aload_n 0, 1) := by decide +kernel
theorem dX8_closesHere_57 : decode cX8_closesHere 57 = .ok (.iload 4, 2) := by decide +kernel
theorem dX8_closesHere_59 : decode cX8_closesHere 59 = .ok (.iload 5, 2) := by decide +kernel
theorem dX8_closesHere_61 : decode cX8_closesHere 61 = .ok (.iload_n 2, 1) := by decide +kernel
theorem dX8_closesHere_62 : decode cX8_closesHere 62 = .ok (.invokevirtual 285, 3) := by decide +kernel
theorem dX8_closesHere_65 : decode cX8_closesHere 65 = .ok (.istore 6, 2) := by decide +kernel
theorem dX8_closesHere_67 : decode cX8_closesHere 67 = .ok (.iload 6, 2) := by decide +kernel
theorem dX8_closesHere_69 : decode cX8_closesHere 69 = .ok (.iconst (-1), 1) := by decide +kernel
theorem dX8_closesHere_70 : decode cX8_closesHere 70 = .ok (.if_icmp .eq 27, 3) := by decide +kernel
theorem dX8_closesHere_73 : decode cX8_closesHere 73 = .ok (.aload_n 0, 1) := by decide +kernel
theorem dX8_closesHere_74 : decode cX8_closesHere 74 = .ok (.getfield 99, 3) := by decide +kernel
theorem dX8_closesHere_77 : decode cX8_closesHere 77 = .ok (.bipush 32, 2) := by decide +kernel
theorem dX8_closesHere_79 : decode cX8_closesHere 79 = .ok (.iload 5, 2) := by decide +kernel
theorem dX8_closesHere_81 : decode cX8_closesHere 81 = .ok (.imul, 1) := by decide +kernel
theorem dX8_closesHere_82 : decode cX8_closesHere 82 = .ok (.aload_n 0, 1) := by decide +kernel
theorem dX8_closesHere_83 : decode cX8_closesHere 83 = .ok (.getfield 22, 3) := by decide +kernel
theorem dX8_closesHere_86 : decode cX8_closesHere 86 = .ok (.iload 4, 2) := by decide +kernel
theorem dX8_closesHere_88 : decode cX8_closesHere 88 = .ok (.iaload, 1) := by decide +kernel
theorem dX8_closesHere_89 : decode cX8_closesHere 89 = .ok (.iadd, 1) := by decide +kernel
theorem dX8_closesHere_90 : decode cX8_closesHere 90 = .ok (.iaload, 1) := by decide +kernel
theorem dX8_closesHere_91 : decode cX8_closesHere 91 = .ok (.ldc_w 284, 3) := by decide +kernel
theorem dX8_closesHere_94 : decode cX8_closesHere 94 = .ok (.if_icmp .ne 9, 3) := by decide +kernel
theorem dX8_closesHere_97 : decode cX8_closesHere 97 = .ok (.ldc_w 284, 3) := by decide +kernel
theorem dX8_closesHere_100 : decode cX8_closesHere 100 = .ok (.goto 29, 3) := by decide +kernel
theorem dX8_closesHere_103 : decode cX8_closesHere 103 = .ok (.aload_n 0, 1) := by decide +kernel
theorem dX8_closesHere_104 : decode cX8_closesHere 104 = .ok (.getfield 99, 3) := by decide +kernel
theorem dX8_closesHere_107 : decode cX8_closesHere 107 = .ok (.bipush 32, 2) := by decide +kernel
theorem dX8_closesHere_109 : decode cX8_closesHere 109 = .ok (.iload 5, 2) := by decide +kernel
theorem dX8_closesHere_111 : decode cX8_closesHere 111 = .ok (.imul, 1) := by decide +kernel
theorem dX8_closesHere_112 : decode cX8_closesHere 112 = .ok (.aload_n 0, 1) := by decide +kernel
theorem dX8_closesHere_113 : decode cX8_closesHere 113 = .ok (.getfield 22, 3) := by decide +kernel
theorem dX8_closesHere_116 : decode cX8_closesHere 116 = .ok (.iload 4, 2) := by decide +kernel
theorem dX8_closesHere_118 : decode cX8_closesHere 118 = .ok (.iaload, 1) := by decide +kernel
theorem dX8_closesHere_119 : decode cX8_closesHere 119 = .ok (.iadd, 1) := by decide +kernel
theorem dX8_closesHere_120 : decode cX8_closesHere 120 = .ok (.iaload, 1) := by decide +kernel
theorem dX8_closesHere_121 : decode cX8_closesHere 121 = .ok (.aload_n 0, 1) := by decide +kernel
theorem dX8_closesHere_122 : decode cX8_closesHere 122 = .ok (.getfield 31, 3) := by decide +kernel
theorem dX8_closesHere_125 : decode cX8_closesHere 125 = .ok (.iload 4, 2) := by decide +kernel
theorem dX8_closesHere_127 : decode cX8_closesHere 127 = .ok (.iaload, 1) := by decide +kernel
theorem dX8_closesHere_128 : decode cX8_closesHere 128 = .ok (.iadd, 1) := by decide +kernel
theorem dX8_closesHere_129 : decode cX8_closesHere 129 = .ok (.istore 7, 2) := by decide +kernel
theorem dX8_closesHere_131 : decode cX8_closesHere 131 = .ok (.iload 6, 2) := by decide +kernel
theorem dX8_closesHere_133 : decode cX8_closesHere 133 = .ok (.iconst (-1), 1) := by decide +kernel
theorem dX8_closesHere_134 : decode cX8_closesHere 134 = .ok (.if_icmp .eq 30, 3) := by decide +kernel
theorem dX8_closesHere_137 : decode cX8_closesHere 137 = .ok (.iload 7, 2) := by decide +kernel
theorem dX8_closesHere_139 : decode cX8_closesHere 139 = .ok (.aload_n 0, 1) := by decide +kernel
theorem dX8_closesHere_140 : decode cX8_closesHere 140 = .ok (.getfield 99, 3) := by decide +kernel
theorem dX8_closesHere_143 : decode cX8_closesHere 143 = .ok (.bipush 32, 2) := by decide +kernel
theorem dX8_closesHere_145 : decode cX8_closesHere 145 = .ok (.iload 6, 2) := by decide +kernel
theorem dX8_closesHere_147 : decode cX8_closesHere 147 = .ok (.imul, 1) := by decide +kernel
theorem dX8_closesHere_148 : decode cX8_closesHere 148 = .ok (.aload_n 0, 1) := by decide +kernel
theorem dX8_closesHere_149 : decode cX8_closesHere 149 = .ok (.getfield 34, 3) := by decide +kernel
theorem dX8_closesHere_152 : decode cX8_closesHere 152 = .ok (.iload 4, 2) := by decide +kernel
theorem dX8_closesHere_154 : decode cX8_closesHere 154 = .ok (.iaload, 1) := by decide +kernel
theorem dX8_closesHere_155 : decode cX8_closesHere 155 = .ok (.iadd, 1) := by decide +kernel
theorem dX8_closesHere_156 : decode cX8_closesHere 156 = .ok (.iaload, 1) := by decide +kernel
theorem dX8_closesHere_157 : decode cX8_closesHere 157 = .ok (.if_icmp .ge 7, 3) := by decide +kernel
theorem dX8_closesHere_160 : decode cX8_closesHere 160 = .ok (.iconst 1, 1) := by decide +kernel
theorem dX8_closesHere_161 : decode cX8_closesHere 161 = .ok (.goto 4, 3) := by decide +kernel
theorem dX8_closesHere_164 : decode cX8_closesHere 164 = .ok (.iconst 0, 1) := by decide +kernel
theorem dX8_closesHere_165 : decode cX8_closesHere 165 = .ok (.istore 8, 2) := by decide +kernel
theorem dX8_closesHere_167 : decode cX8_closesHere 167 = .ok (.iload 8, 2) := by decide +kernel
theorem dX8_closesHere_169 : decode cX8_closesHere 169 = .ok (.ifCond .eq 23, 3) := by decide +kernel
theorem dX8_closesHere_172 : decode cX8_closesHere 172 = .ok (.aload_n 0, 1) := by decide +kernel
theorem dX8_closesHere_173 : decode cX8_closesHere 173 = .ok (.getfield 99, 3) := by decide +kernel
theorem dX8_closesHere_176 : decode cX8_closesHere 176 = .ok (.bipush 32, 2) := by decide +kernel
theorem dX8_closesHere_178 : decode cX8_closesHere 178 = .ok (.iload 6, 2) := by decide +kernel
theorem dX8_closesHere_180 : decode cX8_closesHere 180 = .ok (.imul, 1) := by decide +kernel
theorem dX8_closesHere_181 : decode cX8_closesHere 181 = .ok (.aload_n 0, 1) := by decide +kernel
theorem dX8_closesHere_182 : decode cX8_closesHere 182 = .ok (.getfield 34, 3) := by decide +kernel
theorem dX8_closesHere_185 : decode cX8_closesHere 185 = .ok (.iload 4, 2) := by decide +kernel
theorem dX8_closesHere_187 : decode cX8_closesHere 187 = .ok (.iaload, 1) := by decide +kernel
theorem dX8_closesHere_188 : decode cX8_closesHere 188 = .ok (.iadd, 1) := by decide +kernel
theorem dX8_closesHere_189 : decode cX8_closesHere 189 = .ok (.iload 7, 2) := by decide +kernel
theorem dX8_closesHere_191 : decode cX8_closesHere 191 = .ok (.iastore, 1) := by decide +kernel
theorem dX8_closesHere_192 : decode cX8_closesHere 192 = .ok (.iload_n 3, 1) := by decide +kernel
theorem dX8_closesHere_193 : decode cX8_closesHere 193 = .ok (.ifCond .ne 8, 3) := by decide +kernel
theorem dX8_closesHere_196 : decode cX8_closesHere 196 = .ok (.iload 8, 2) := by decide +kernel
theorem dX8_closesHere_198 : decode cX8_closesHere 198 = .ok (.ifCond .eq 7, 3) := by decide +kernel
theorem dX8_closesHere_201 : decode cX8_closesHere 201 = .ok (.iconst 1, 1) := by decide +kernel
theorem dX8_closesHere_202 : decode cX8_closesHere 202 = .ok (.goto 4, 3) := by decide +kernel
theorem dX8_closesHere_205 : decode cX8_closesHere 205 = .ok (.iconst 0, 1) := by decide +kernel
theorem dX8_closesHere_206 : decode cX8_closesHere 206 = .ok (.istore_n 3, 1) := by decide +kernel
theorem dX8_closesHere_207 : decode cX8_closesHere 207 = .ok (.iinc 5 1, 3) := by decide +kernel
theorem dX8_closesHere_210 : decode cX8_closesHere 210 = .ok (.goto (-175), 3) := by decide +kernel
theorem dX8_closesHere_213 : decode cX8_closesHere 213 = .ok (.iinc 4 1, 3) := by decide +kernel
theorem dX8_closesHere_216 : decode cX8_closesHere 216 = .ok (.goto (-201), 3) := by decide +kernel
theorem dX8_closesHere_219 : decode cX8_closesHere 219 = .ok (.goto (-217), 3) := by decide +kernel
theorem dX8_closesHere_222 : decode cX8_closesHere 222 = .ok (.return_, 1) := by decide +kernel
set_option maxRecDepth 20000 in
theorem ggX8_goesHere_X8_outOf : GoodIn wsX8_goesHere wsX8_outOf := goodIn_r _ [14, 15, 16, 26, 27, 28, 29, 30, 31, 32, 33, 34, 35, 36, 37, 38, 39, 40, 41, 42, 43, 44, 45, 46, 47, 48, 49, 50, 51, 52, 53, 54, 55, 56, 57, 58, 59, 60, 61, 62, 63, 64, 65, 66, 67, 68, 69, 70, 71, 72] (by decide +kernel) (by decide +kernel)
set_option maxRecDepth 20000 in
theorem gX8_goesHere_X8_outOf : GoodIn wsX8_goesHere (wsV RX8 289 RX8 yX8_outOf wsX8_outOf) := goodIn_app (goodIn_of _ (by decide +kernel)) ggX8_goesHere_X8_outOf
set_option maxRecDepth 20000 in
theorem ggX8_goesHere_X8_behind : GoodIn wsX8_goesHere wsX8_behind := goodIn_r _ [20, 4, 21, 22, 23, 24, 13, 25, 16, 15, 26, 27, 28, 29, 30, 31, 32, 33, 34, 35, 36, 37, 38, 39, 40, 41, 42, 43, 44, 45, 46, 47, 48, 49, 50, 51, 52, 53, 54, 55, 56, 57, 58, 59, 60, 61, 62, 63, 64, 65, 66, 67, 68, 69, 70, 71, 72] (by decide +kernel) (by decide +kernel)
set_option maxRecDepth 20000 in
theorem gX8_goesHere_X8_behind : GoodIn wsX8_goesHere (wsV RX8 285 RX8 yX8_behind wsX8_behind) := goodIn_app (goodIn_of _ (by decide +kernel)) ggX8_goesHere_X8_behind
theorem dX8_goesHere_0 : decode cX8_goesHere 0 = .ok (.iconst 0, 1) := by decide +kernel
theorem dX8_goesHere_1 : decode cX8_goesHere 1 = .ok (.istore 4, 2) := by decide +kernel
theorem dX8_goesHere_3 : decode cX8_goesHere 3 = .ok (.iload 4, 2) := by decide +kernel
theorem dX8_goesHere_5 : decode cX8_goesHere 5 = .ok (.sipush 288, 3) := by decide +kernel
theorem dX8_goesHere_8 : decode cX8_goesHere 8 = .ok (.if_icmp .ge 19, 3) := by decide +kernel
theorem dX8_goesHere_11 : decode cX8_goesHere 11 = .ok (.aload_n 0, 1) := by decide +kernel
theorem dX8_goesHere_12 : decode cX8_goesHere 12 = .ok (.getfield 102, 3) := by decide +kernel
theorem dX8_goesHere_15 : decode cX8_goesHere 15 = .ok (.iload 4, 2) := by decide +kernel
theorem dX8_goesHere_17 : decode cX8_goesHere 17 = .ok (.ldc_w 284, 3) := by decide +kernel
theorem dX8_goesHere_20 : decode cX8_goesHere 20 = .ok (.iastore, 1) := by decide +kernel
theorem dX8_goesHere_21 : decode cX8_goesHere 21 = .ok (.iinc 4 1, 3) := by decide +kernel
theorem dX8_goesHere_24 : decode cX8_goesHere 24 = .ok (.goto (-21), 3) := by decide +kernel
theorem dX8_goesHere_27 : decode cX8_goesHere 27 = .ok (.ldc_w 284, 3) := by decide +kernel
theorem dX8_goesHere_30 : decode cX8_goesHere 30 = .ok (.istore 4, 2) := by decide +kernel
theorem dX8_goesHere_32 : decode cX8_goesHere 32 = .ok (.sipush 160, 3) := by decide +kernel
theorem dX8_goesHere_35 : decode cX8_goesHere 35 = .ok (.iload_n 1, 1) := by decide +kernel
theorem dX8_goesHere_36 : decode cX8_goesHere 36 = .ok (.imul, 1) := by decide +kernel
theorem dX8_goesHere_37 : decode cX8_goesHere 37 = .ok (.istore 5, 2) := by decide +kernel
theorem dX8_goesHere_39 : decode cX8_goesHere 39 = .ok (.iload 5, 2) := by decide +kernel
theorem dX8_goesHere_41 : decode cX8_goesHere 41 = .ok (.sipush 160, 3) := by decide +kernel
theorem dX8_goesHere_44 : decode cX8_goesHere 44 = .ok (.iload_n 1, 1) := by decide +kernel
theorem dX8_goesHere_45 : decode cX8_goesHere 45 = .ok (.imul, 1) := by decide +kernel
theorem dX8_goesHere_46 : decode cX8_goesHere 46 = .ok (.aload_n 0, 1) := by decide +kernel
theorem dX8_goesHere_47 : decode cX8_goesHere 47 = .ok (.getfield 19, 3) := by decide +kernel
theorem dX8_goesHere_50 : decode cX8_goesHere 50 = .ok (.iload_n 1, 1) := by decide +kernel
theorem dX8_goesHere_51 : decode cX8_goesHere 51 = .ok (.iaload, 1) := by decide +kernel
theorem dX8_goesHere_52 : decode cX8_goesHere 52 = .ok (.iadd, 1) := by decide +kernel
theorem dX8_goesHere_53 : decode cX8_goesHere 53 = .ok (.if_icmp .ge 209, 3) := by decide +kernel
theorem dX8_goesHere_56 : decode cX8_goesHere 56 = .ok (.iconst 0, 1) := by decide +kernel
theorem dX8_goesHere_57 : decode cX8_goesHere 57 = .ok (.istore 6, 2) := by decide +kernel
theorem dX8_goesHere_59 : decode cX8_goesHere 59 = .ok (.iload 6, 2) := by decide +kernel
theorem dX8_goesHere_61 : decode cX8_goesHere 61 = .ok (.aload_n 0, 1) := by decide +kernel
theorem dX8_goesHere_62 : decode cX8_goesHere 62 = .ok (.getfield 135, 3) := by decide +kernel
theorem dX8_goesHere_65 : decode cX8_goesHere 65 = .ok (.if_icmp .gt 191, 3) := by decide +kernel
theorem dX8_goesHere_68 : decode cX8_goesHere 68 = .ok (.aload_n 0, 1) := by decide +kernel
theorem dX8_goesHere_69 : decode cX8_goesHere 69 = .ok (.iload 5, 2) := by decide +kernel
theorem dX8_goesHere_71 : decode cX8_goesHere 71 = .ok (.iload_n 2, 1) := by decide +kernel
theorem dX8_goesHere_72 : decode cX8_goesHere 72 = .ok (.invokevirtual 289, 3) := by decide +kernel
theorem dX8_goesHere_75 : decode cX8_goesHere 75 = .ok (.iload_n 3, 1) := by decide +kernel
theorem dX8_goesHere_76 : decode cX8_goesHere 76 = .ok (.if_icmp .ne 180, 3) := by decide +kernel
theorem dX8_goesHere_79 : decode cX8_goesHere 79 = .ok (.aload_n 0, 1) := by decide +kernel
theorem dX8_goesHere_80 : decode cX8_goesHere 80 = .ok (.iload 5, 2) := by decide +kernel
theorem dX8_goesHere_82 : decode cX8_goesHere 82 = .ok (.iload 6, 2) := by decide +kernel
theorem dX8_goesHere_84 : decode cX8_goesHere 84 = .ok (.iload_n 2, 1) := by decide +kernel
theorem dX8_goesHere_85 : decode cX8_goesHere 85 = .ok (.invokevirtual 285, 3) := by decide +kernel
theorem dX8_goesHere_88 : decode cX8_goesHere 88 = .ok (.istore 7, 2) := by decide +kernel
theorem dX8_goesHere_90 : decode cX8_goesHere 90 = .ok (.iload 7, 2) := by decide +kernel
theorem dX8_goesHere_92 : decode cX8_goesHere 92 = .ok (.iconst (-1), 1) := by decide +kernel
theorem dX8_goesHere_93 : decode cX8_goesHere 93 = .ok (.if_icmp .eq 157, 3) := by decide +kernel
theorem dX8_goesHere_96 : decode cX8_goesHere 96 = .ok (.aload_n 0, 1) := by decide +kernel
theorem dX8_goesHere_97 : decode cX8_goesHere 97 = .ok (.getfield 99, 3) := by decide +kernel
theorem dX8_goesHere_100 : decode cX8_goesHere 100 = .ok (.bipush 32, 2) := by decide +kernel
theorem dX8_goesHere_102 : decode cX8_goesHere 102 = .ok (.iload 6, 2) := by decide +kernel
theorem dX8_goesHere_104 : decode cX8_goesHere 104 = .ok (.imul, 1) := by decide +kernel
theorem dX8_goesHere_105 : decode cX8_goesHere 105 = .ok (.aload_n 0, 1) := by decide +kernel
theorem dX8_goesHere_106 : decode cX8_goesHere 106 = .ok (.getfield 22, 3) := by decide +kernel
theorem dX8_goesHere_109 : decode cX8_goesHere 109 = .ok (.iload 5, 2) := by decide +kernel
theorem dX8_goesHere_111 : decode cX8_goesHere 111 = .ok (.iaload, 1) := by decide +kernel
theorem dX8_goesHere_112 : decode cX8_goesHere 112 = .ok (.iadd, 1) := by decide +kernel
theorem dX8_goesHere_113 : decode cX8_goesHere 113 = .ok (.iaload, 1) := by decide +kernel
theorem dX8_goesHere_114 : decode cX8_goesHere 114 = .ok (.ldc_w 284, 3) := by decide +kernel
theorem dX8_goesHere_117 : decode cX8_goesHere 117 = .ok (.if_icmp .eq 133, 3) := by decide +kernel
theorem dX8_goesHere_120 : decode cX8_goesHere 120 = .ok (.aload_n 0, 1) := by decide +kernel
theorem dX8_goesHere_121 : decode cX8_goesHere 121 = .ok (.getfield 96, 3) := by decide +kernel
theorem dX8_goesHere_124 : decode cX8_goesHere 124 = .ok (.bipush 32, 2) := by decide +kernel
theorem dX8_goesHere_126 : decode cX8_goesHere 126 = .ok (.iload 7, 2) := by decide +kernel
theorem dX8_goesHere_128 : decode cX8_goesHere 128 = .ok (.imul, 1) := by decide +kernel
theorem dX8_goesHere_129 : decode cX8_goesHere 129 = .ok (.aload_n 0, 1) := by decide +kernel
theorem dX8_goesHere_130 : decode cX8_goesHere 130 = .ok (.getfield 34, 3) := by decide +kernel
theorem dX8_goesHere_133 : decode cX8_goesHere 133 = .ok (.iload 5, 2) := by decide +kernel
theorem dX8_goesHere_135 : decode cX8_goesHere 135 = .ok (.iaload, 1) := by decide +kernel
theorem dX8_goesHere_136 : decode cX8_goesHere 136 = .ok (.iadd, 1) := by decide +kernel
theorem dX8_goesHere_137 : decode cX8_goesHere 137 = .ok (.iaload, 1) := by decide +kernel
theorem dX8_goesHere_138 : decode cX8_goesHere 138 = .ok (.ldc_w 284, 3) := by decide +kernel
theorem dX8_goesHere_141 : decode cX8_goesHere 141 = .ok (.if_icmp .eq 109, 3) := by decide +kernel
theorem dX8_goesHere_144 : decode cX8_goesHere 144 = .ok (.aload_n 0, 1) := by decide +kernel
theorem dX8_goesHere_145 : decode cX8_goesHere 145 = .ok (.getfield 99, 3) := by decide +kernel
theorem dX8_goesHere_148 : decode cX8_goesHere 148 = .ok (.bipush 32, 2) := by decide +kernel
theorem dX8_goesHere_150 : decode cX8_goesHere 150 = .ok (.iload 6, 2) := by decide +kernel
theorem dX8_goesHere_152 : decode cX8_goesHere 152 = .ok (.imul, 1) := by decide +kernel
theorem dX8_goesHere_153 : decode cX8_goesHere 153 = .ok (.aload_n 0, 1) := by decide +kernel
theorem dX8_goesHere_154 : decode cX8_goesHere 154 = .ok (.getfield 22, 3) := by decide +kernel
theorem dX8_goesHere_157 : decode cX8_goesHere 157 = .ok (.iload 5, 2) := by decide +kernel
theorem dX8_goesHere_159 : decode cX8_goesHere 159 = .ok (.iaload, 1) := by decide +kernel
theorem dX8_goesHere_160 : decode cX8_goesHere 160 = .ok (.iadd, 1) := by decide +kernel
theorem dX8_goesHere_161 : decode cX8_goesHere 161 = .ok (.iaload, 1) := by decide +kernel
theorem dX8_goesHere_162 : decode cX8_goesHere 162 = .ok (.aload_n 0, 1) := by decide +kernel
theorem dX8_goesHere_163 : decode cX8_goesHere 163 = .ok (.getfield 31, 3) := by decide +kernel
theorem dX8_goesHere_166 : decode cX8_goesHere 166 = .ok (.iload 5, 2) := by decide +kernel
theorem dX8_goesHere_168 : decode cX8_goesHere 168 = .ok (.iaload, 1) := by decide +kernel
theorem dX8_goesHere_169 : decode cX8_goesHere 169 = .ok (.iadd, 1) := by decide +kernel
theorem dX8_goesHere_170 : decode cX8_goesHere 170 = .ok (.istore 8, 2) := by decide +kernel
theorem dX8_goesHere_172 : decode cX8_goesHere 172 = .ok (.bipush 32, 2) := by decide +kernel
theorem dX8_goesHere_174 : decode cX8_goesHere 174 = .ok (.iload 7, 2) := by decide +kernel
theorem dX8_goesHere_176 : decode cX8_goesHere 176 = .ok (.imul, 1) := by decide +kernel
theorem dX8_goesHere_177 : decode cX8_goesHere 177 = .ok (.aload_n 0, 1) := by decide +kernel
theorem dX8_goesHere_178 : decode cX8_goesHere 178 = .ok (.getfield 34, 3) := by decide +kernel
theorem dX8_goesHere_181 : decode cX8_goesHere 181 = .ok (.iload 5, 2) := by decide +kernel
theorem dX8_goesHere_183 : decode cX8_goesHere 183 = .ok (.iaload, 1) := by decide +kernel
theorem dX8_goesHere_184 : decode cX8_goesHere 184 = .ok (.iadd, 1) := by decide +kernel
theorem dX8_goesHere_185 : decode cX8_goesHere 185 = .ok (.istore 9, 2) := by decide +kernel
theorem dX8_goesHere_187 : decode cX8_goesHere 187 = .ok (.aload_n 0, 1) := by decide +kernel
theorem dX8_goesHere_188 : decode cX8_goesHere 188 = .ok (.getfield 102, 3) := by decide +kernel
theorem dX8_goesHere_191 : decode cX8_goesHere 191 = .ok (.iload 9, 2) := by decide +kernel
theorem dX8_goesHere_193 : decode cX8_goesHere 193 = .ok (.iload 8, 2) := by decide +kernel
theorem dX8_goesHere_195 : decode cX8_goesHere 195 = .ok (.aload_n 0, 1) := by decide +kernel
theorem dX8_goesHere_196 : decode cX8_goesHere 196 = .ok (.getfield 102, 3) := by decide +kernel
theorem dX8_goesHere_199 : decode cX8_goesHere 199 = .ok (.iload 9, 2) := by decide +kernel
theorem dX8_goesHere_201 : decode cX8_goesHere 201 = .ok (.iaload, 1) := by decide +kernel
theorem dX8_goesHere_202 : decode cX8_goesHere 202 = .ok (.if_icmp .ge 8, 3) := by decide +kernel
theorem dX8_goesHere_205 : decode cX8_goesHere 205 = .ok (.iload 8, 2) := by decide +kernel
theorem dX8_goesHere_207 : decode cX8_goesHere 207 = .ok (.goto 10, 3) := by decide +kernel
theorem dX8_goesHere_210 : decode cX8_goesHere 210 = .ok (.aload_n 0, 1) := by decide +kernel
theorem dX8_goesHere_211 : decode cX8_goesHere 211 = .ok (.getfield 102, 3) := by decide +kernel
theorem dX8_goesHere_214 : decode cX8_goesHere 214 = .ok (.iload 9, 2) := by decide +kernel
theorem dX8_goesHere_216 : decode cX8_goesHere 216 = .ok (.iaload, 1) := by decide +kernel
theorem dX8_goesHere_217 : decode cX8_goesHere 217 = .ok (.iastore, 1) := by decide +kernel
theorem dX8_goesHere_218 : decode cX8_goesHere 218 = .ok (.iload 8, 2) := by decide +kernel
theorem dX8_goesHere_220 : decode cX8_goesHere 220 = .ok (.aload_n 0, 1) := by decide +kernel
theorem dX8_goesHere_221 : decode cX8_goesHere 221 = .ok (.getfield 96, 3) := by decide +kernel
theorem dX8_goesHere_224 : decode cX8_goesHere 224 = .ok (.iload 9, 2) := by decide +kernel
theorem dX8_goesHere_226 : decode cX8_goesHere 226 = .ok (.iaload, 1) := by decide +kernel
theorem dX8_goesHere_227 : decode cX8_goesHere 227 = .ok (.iadd, 1) := by decide +kernel
theorem dX8_goesHere_228 : decode cX8_goesHere 228 = .ok (.iload 4, 2) := by decide +kernel
theorem dX8_goesHere_230 : decode cX8_goesHere 230 = .ok (.if_icmp .ge 16, 3) := by decide +kernel
theorem dX8_goesHere_233 : decode cX8_goesHere 233 = .ok (.iload 8, 2) := by decide +kernel
theorem dX8_goesHere_235 : decode cX8_goesHere 235 = .ok (.aload_n 0, 1) := by decide +kernel
theorem dX8_goesHere_236 : decode cX8_goesHere 236 = .ok (.getfield 96, 3) := by decide +kernel
theorem dX8_goesHere_239 : decode cX8_goesHere 239 = .ok (.iload 9, 2) := by decide +kernel
theorem dX8_goesHere_241 : decode cX8_goesHere 241 = .ok (.iaload, 1) := by decide +kernel
theorem dX8_goesHere_242 : decode cX8_goesHere 242 = .ok (.iadd, 1) := by decide +kernel
theorem dX8_goesHere_243 : decode cX8_goesHere 243 = .ok (.goto 5, 3) := by decide +kernel
theorem dX8_goesHere_246 : decode cX8_goesHere 246 = .ok (.iload 4, 2) := by decide +kernel
theorem dX8_goesHere_248 : decode cX8_goesHere 248 = .ok (.istore 4, 2) := by decide +kernel
theorem dX8_goesHere_250 : decode cX8_goesHere 250 = .ok (.iinc 6 1, 3) := by decide +kernel
theorem dX8_goesHere_253 : decode cX8_goesHere 253 = .ok (.goto (-194), 3) := by decide +kernel
theorem dX8_goesHere_256 : decode cX8_goesHere 256 = .ok (.iinc 5 1, 3) := by decide +kernel
theorem dX8_goesHere_259 : decode cX8_goesHere 259 = .ok (.goto (-220), 3) := by decide +kernel
theorem dX8_goesHere_262 : decode cX8_goesHere 262 = .ok (.iload 4, 2) := by decide +kernel
theorem dX8_goesHere_264 : decode cX8_goesHere 264 = .ok (.ireturn, 1) := by decide +kernel
theorem dX8_begins__0 : decode cX8_begins_ 0 = .ok (.iconst 0, 1) := by decide +kernel
theorem dX8_begins__1 : decode cX8_begins_ 1 = .ok (.istore_n 2, 1) := by decide +kernel
theorem dX8_begins__2 : decode cX8_begins_ 2 = .ok (.iload_n 2, 1) := by decide +kernel
theorem dX8_begins__3 : decode cX8_begins_ 3 = .ok (.sipush 288, 3) := by decide +kernel
theorem dX8_begins__6 : decode cX8_begins_ 6 = .ok (.if_icmp .ge 43, 3) := by decide +kernel
theorem dX8_begins__9 : decode cX8_begins_ 9 = .ok (.aload_n 0, 1) := by decide +kernel
theorem dX8_begins__10 : decode cX8_begins_ 10 = .ok (.getfield 99, 3) := by decide +kernel
theorem dX8_begins__13 : decode cX8_begins_ 13 = .ok (.iload_n 2, 1) := by decide +kernel
theorem dX8_begins__14 : decode cX8_begins_ 14 = .ok (.iload_n 1, 1) := by decide +kernel
theorem dX8_begins__15 : decode cX8_begins_ 15 = .ok (.ifCond .eq 11, 3) := by decide +kernel
theorem dX8_begins__18 : decode cX8_begins_ 18 = .ok (.iload_n 2, 1) := by decide +kernel
theorem dX8_begins__19 : decode cX8_begins_ 19 = .ok (.ifCond .ne 7, 3) := by decide +kernel
theorem dX8_begins__22 : decode cX8_begins_ 22 = .ok (.iconst 0, 1) := by decide +kernel
theorem dX8_begins__23 : decode cX8_begins_ 23 = .ok (.goto 19, 3) := by decide +kernel
theorem dX8_begins__26 : decode cX8_begins_ 26 = .ok (.iload_n 1, 1) := by decide +kernel
theorem dX8_begins__27 : decode cX8_begins_ 27 = .ok (.ifCond .eq 9, 3) := by decide +kernel
theorem dX8_begins__30 : decode cX8_begins_ 30 = .ok (.ldc_w 284, 3) := by decide +kernel
theorem dX8_begins__33 : decode cX8_begins_ 33 = .ok (.goto 9, 3) := by decide +kernel
theorem dX8_begins__36 : decode cX8_begins_ 36 = .ok (.aload_n 0, 1) := by decide +kernel
theorem dX8_begins__37 : decode cX8_begins_ 37 = .ok (.getfield 102, 3) := by decide +kernel
theorem dX8_begins__40 : decode cX8_begins_ 40 = .ok (.iload_n 2, 1) := by decide +kernel
theorem dX8_begins__41 : decode cX8_begins_ 41 = .ok (.iaload, 1) := by decide +kernel
theorem dX8_begins__42 : decode cX8_begins_ 42 = .ok (.iastore, 1) := by decide +kernel
theorem dX8_begins__43 : decode cX8_begins_ 43 = .ok (.iinc 2 1, 3) := by decide +kernel
theorem dX8_begins__46 : decode cX8_begins_ 46 = .ok (.goto (-44), 3) := by decide +kernel
theorem dX8_begins__49 : decode cX8_begins_ 49 = .ok (.return_, 1) := by decide +kernel
set_option maxRecDepth 20000 in
theorem ggX8_isDoneFor_X8_isEndOf : GoodIn wsX8_isDoneFor wsX8_isEndOf := goodIn_r _ [8, 9, 10, 11, 12, 13, 14, 15, 16, 17, 18, 19, 20, 21, 22, 23, 24, 25, 26, 27, 28, 29, 30, 31, 32, 33, 34, 35, 36, 37, 38, 39, 40, 41, 42, 43, 44, 45, 46, 47, 48, 49, 50, 51, 52, 53, 54, 55, 56] (by decide +kernel) (by decide +kernel)
set_option maxRecDepth 20000 in
theorem gX8_isDoneFor_X8_isEndOf : GoodIn wsX8_isDoneFor (wsV RX8 201 RX8 yX8_isEndOf wsX8_isEndOf) := goodIn_app (goodIn_of _ (by decide +kernel)) ggX8_isDoneFor_X8_isEndOf
theorem dX8_isDoneFor_0 : decode cX8_isDoneFor 0 = .ok (.iconst 0, 1) := by decide +kernel
theorem dX8_isDoneFor_1 : decode cX8_isDoneFor 1 = .ok (.istore_n 3, 1) := by decide +kernel
theorem dX8_isDoneFor_2 : decode cX8_isDoneFor 2 = .ok (.iconst 0, 1) := by decide +kernel
theorem dX8_isDoneFor_3 : decode cX8_isDoneFor 3 = .ok (.istore 4, 2) := by decide +kernel
theorem dX8_isDoneFor_5 : decode cX8_isDoneFor 5 = .ok (.iload 4, 2) := by decide +kernel
theorem dX8_isDoneFor_7 : decode cX8_isDoneFor 7 = .ok (.aload_n 0, 1) := by decide +kernel
theorem dX8_isDoneFor_8 : decode cX8_isDoneFor 8 = .ok (.getfield 13, 3) := by decide +kernel
theorem dX8_isDoneFor_11 : decode cX8_isDoneFor 11 = .ok (.iload_n 1, 1) := by decide +kernel
theorem dX8_isDoneFor_12 : decode cX8_isDoneFor 12 = .ok (.iaload, 1) := by decide +kernel
theorem dX8_isDoneFor_13 : decode cX8_isDoneFor 13 = .ok (.if_icmp .ge 48, 3) := by decide +kernel
theorem dX8_isDoneFor_16 : decode cX8_isDoneFor 16 = .ok (.iload_n 3, 1) := by decide +kernel
theorem dX8_isDoneFor_17 : decode cX8_isDoneFor 17 = .ok (.ifCond .ne 32, 3) := by decide +kernel
theorem dX8_isDoneFor_20 : decode cX8_isDoneFor 20 = .ok (.aload_n 0, 1) := by decide +kernel
theorem dX8_isDoneFor_21 : decode cX8_isDoneFor 21 = .ok (.iload_n 1, 1) := by decide +kernel
theorem dX8_isDoneFor_22 : decode cX8_isDoneFor 22 = .ok (.iload 4, 2) := by decide +kernel
theorem dX8_isDoneFor_24 : decode cX8_isDoneFor 24 = .ok (.invokevirtual 201, 3) := by decide +kernel
theorem dX8_isDoneFor_27 : decode cX8_isDoneFor 27 = .ok (.ifCond .eq 26, 3) := by decide +kernel
theorem dX8_isDoneFor_30 : decode cX8_isDoneFor 30 = .ok (.aload_n 0, 1) := by decide +kernel
theorem dX8_isDoneFor_31 : decode cX8_isDoneFor 31 = .ok (.getfield 99, 3) := by decide +kernel
theorem dX8_isDoneFor_34 : decode cX8_isDoneFor 34 = .ok (.bipush 32, 2) := by decide +kernel
theorem dX8_isDoneFor_36 : decode cX8_isDoneFor 36 = .ok (.aload_n 0, 1) := by decide +kernel
theorem dX8_isDoneFor_37 : decode cX8_isDoneFor 37 = .ok (.getfield 135, 3) := by decide +kernel
theorem dX8_isDoneFor_40 : decode cX8_isDoneFor 40 = .ok (.imul, 1) := by decide +kernel
theorem dX8_isDoneFor_41 : decode cX8_isDoneFor 41 = .ok (.iload 4, 2) := by decide +kernel
theorem dX8_isDoneFor_43 : decode cX8_isDoneFor 43 = .ok (.iadd, 1) := by decide +kernel
theorem dX8_isDoneFor_44 : decode cX8_isDoneFor 44 = .ok (.iaload, 1) := by decide +kernel
theorem dX8_isDoneFor_45 : decode cX8_isDoneFor 45 = .ok (.iload_n 2, 1) := by decide +kernel
theorem dX8_isDoneFor_46 : decode cX8_isDoneFor 46 = .ok (.if_icmp .ne 7, 3) := by decide +kernel
theorem dX8_isDoneFor_49 : decode cX8_isDoneFor 49 = .ok (.iconst 1, 1) := by decide +kernel
theorem dX8_isDoneFor_50 : decode cX8_isDoneFor 50 = .ok (.goto 4, 3) := by decide +kernel
theorem dX8_isDoneFor_53 : decode cX8_isDoneFor 53 = .ok (.iconst 0, 1) := by decide +kernel
theorem dX8_isDoneFor_54 : decode cX8_isDoneFor 54 = .ok (.istore_n 3, 1) := by decide +kernel
theorem dX8_isDoneFor_55 : decode cX8_isDoneFor 55 = .ok (.iinc 4 1, 3) := by decide +kernel
theorem dX8_isDoneFor_58 : decode cX8_isDoneFor 58 = .ok (.goto (-53), 3) := by decide +kernel
theorem dX8_isDoneFor_61 : decode cX8_isDoneFor 61 = .ok (.iload_n 3, 1) := by decide +kernel
theorem dX8_isDoneFor_62 : decode cX8_isDoneFor 62 = .ok (.ireturn, 1) := by decide +kernel
set_option maxRecDepth 20000 in
theorem ggX8_tellsBest_X8_begins_ : GoodIn wsX8_tellsBest wsX8_begins_ := goodIn_r _ [8, 9, 10, 11, 50, 51, 52, 53, 54, 55, 56, 57, 58, 59, 60, 61, 62, 63, 64, 65, 66, 67, 68, 69, 70, 71, 72, 73, 74, 75, 76, 77, 78, 79, 80, 81, 82, 83, 84, 85, 86, 87, 88, 89, 90, 91, 92, 93, 94, 95, 96] (by decide +kernel) (by decide +kernel)
set_option maxRecDepth 20000 in
theorem gX8_tellsBest_X8_begins_ : GoodIn wsX8_tellsBest (wsV RX8 324 RX8 yX8_begins_ wsX8_begins_) := goodIn_app (goodIn_of _ (by decide +kernel)) ggX8_tellsBest_X8_begins_
set_option maxRecDepth 20000 in
theorem ggX8_tellsBest_X8_closesHere : GoodIn wsX8_tellsBest wsX8_closesHere := goodIn_r _ [15, 16, 17, 9, 18, 10, 19, 20, 21, 22, 23, 7, 24, 25, 26, 27, 28, 29, 30, 31, 32, 33, 34, 35, 50, 51, 52, 53, 54, 55, 56, 57, 58, 59, 60, 61, 62, 63, 64, 65, 66, 67, 68, 69, 70, 71, 72, 73, 74, 75, 76, 77, 78, 79, 80, 81, 82, 83, 84, 85, 86, 87, 88, 89, 90, 91, 92, 93, 94, 95, 96] (by decide +kernel) (by decide +kernel)
set_option maxRecDepth 20000 in
theorem gX8_tellsBest_X8_closesHere : GoodIn wsX8_tellsBest (wsV RX8 327 RX8 yX8_closesHere wsX8_closesHere) := goodIn_app (goodIn_of _ (by decide +kernel)) ggX8_tellsBest_X8_closesHere
set_option maxRecDepth 20000 in
theorem ggX8_tellsBest_X8_isDoneFor : GoodIn wsX8_tellsBest wsX8_isDoneFor := goodIn_r _ [39, 40, 9, 17, 41, 42, 43, 7, 44, 45, 50, 51, 52, 53, 54, 55, 56, 57, 58, 59, 60, 61, 62, 63, 64, 65, 66, 67, 68, 69, 70, 71, 72, 73, 74, 75, 76, 77, 78, 79, 80, 81, 82, 83, 84, 85, 86, 87, 88, 89, 90, 91, 92, 93, 94, 95, 96] (by decide +kernel) (by decide +kernel)
set_option maxRecDepth 20000 in
theorem gX8_tellsBest_X8_isDoneFor : GoodIn wsX8_tellsBest (wsV RX8 330 RX8 yX8_isDoneFor wsX8_isDoneFor) := goodIn_app (goodIn_of _ (by decide +kernel)) ggX8_tellsBest_X8_isDoneFor
set_option maxRecDepth 20000 in
theorem ggX8_tellsBest_X8_goesHere : GoodIn wsX8_tellsBest wsX8_goesHere := goodIn_r _ [49, 11, 10, 16, 17, 9, 18, 1, 20, 19, 21, 22, 23, 7, 24, 25, 26, 27, 28, 29, 30, 31, 32, 33, 34, 35, 50, 51, 52, 53, 54, 55, 56, 57, 58, 59, 60, 61, 62, 63, 64, 65, 66, 67, 68, 69, 70, 71, 72, 73, 74, 75, 76, 77, 78, 79, 80, 81, 82, 83, 84, 85, 86, 87, 88, 89, 90, 91, 92, 93, 94, 95, 96] (by decide +kernel) (by decide +kernel)
set_option maxRecDepth 20000 in
theorem gX8_tellsBest_X8_goesHere : GoodIn wsX8_tellsBest (wsV RX8 333 RX8 yX8_goesHere wsX8_goesHere) := goodIn_app (goodIn_of _ (by decide +kernel)) ggX8_tellsBest_X8_goesHere
theorem dX8_tellsBest_0 : decode cX8_tellsBest 0 = .ok (.aload_n 0, 1) := by decide +kernel
theorem dX8_tellsBest_1 : decode cX8_tellsBest 1 = .ok (.getfield 96, 3) := by decide +kernel
theorem dX8_tellsBest_4 : decode cX8_tellsBest 4 = .ok (.iconst 0, 1) := by decide +kernel
theorem dX8_tellsBest_5 : decode cX8_tellsBest 5 = .ok (.iaload, 1) := by decide +kernel
theorem dX8_tellsBest_6 : decode cX8_tellsBest 6 = .ok (.istore_n 3, 1) := by decide +kernel
theorem dX8_tellsBest_7 : decode cX8_tellsBest 7 = .ok (.aload_n 0, 1) := by decide +kernel
theorem dX8_tellsBest_8 : decode cX8_tellsBest 8 = .ok (.iconst 1, 1) := by decide +kernel
theorem dX8_tellsBest_9 : decode cX8_tellsBest 9 = .ok (.invokevirtual 324, 3) := by decide +kernel
theorem dX8_tellsBest_12 : decode cX8_tellsBest 12 = .ok (.aload_n 0, 1) := by decide +kernel
theorem dX8_tellsBest_13 : decode cX8_tellsBest 13 = .ok (.iload_n 1, 1) := by decide +kernel
theorem dX8_tellsBest_14 : decode cX8_tellsBest 14 = .ok (.iload_n 2, 1) := by decide +kernel
theorem dX8_tellsBest_15 : decode cX8_tellsBest 15 = .ok (.invokevirtual 327, 3) := by decide +kernel
theorem dX8_tellsBest_18 : decode cX8_tellsBest 18 = .ok (.aload_n 0, 1) := by decide +kernel
theorem dX8_tellsBest_19 : decode cX8_tellsBest 19 = .ok (.iconst 0, 1) := by decide +kernel
theorem dX8_tellsBest_20 : decode cX8_tellsBest 20 = .ok (.putfield 314, 3) := by decide +kernel
theorem dX8_tellsBest_23 : decode cX8_tellsBest 23 = .ok (.aload_n 0, 1) := by decide +kernel
theorem dX8_tellsBest_24 : decode cX8_tellsBest 24 = .ok (.iload_n 1, 1) := by decide +kernel
theorem dX8_tellsBest_25 : decode cX8_tellsBest 25 = .ok (.iload_n 3, 1) := by decide +kernel
theorem dX8_tellsBest_26 : decode cX8_tellsBest 26 = .ok (.invokevirtual 330, 3) := by decide +kernel
theorem dX8_tellsBest_29 : decode cX8_tellsBest 29 = .ok (.ifCond .ne 59, 3) := by decide +kernel
theorem dX8_tellsBest_32 : decode cX8_tellsBest 32 = .ok (.iconst 0, 1) := by decide +kernel
theorem dX8_tellsBest_33 : decode cX8_tellsBest 33 = .ok (.istore 4, 2) := by decide +kernel
theorem dX8_tellsBest_35 : decode cX8_tellsBest 35 = .ok (.aload_n 0, 1) := by decide +kernel
theorem dX8_tellsBest_36 : decode cX8_tellsBest 36 = .ok (.iload_n 1, 1) := by decide +kernel
theorem dX8_tellsBest_37 : decode cX8_tellsBest 37 = .ok (.iload_n 2, 1) := by decide +kernel
theorem dX8_tellsBest_38 : decode cX8_tellsBest 38 = .ok (.iload 4, 2) := by decide +kernel
theorem dX8_tellsBest_40 : decode cX8_tellsBest 40 = .ok (.invokevirtual 333, 3) := by decide +kernel
theorem dX8_tellsBest_43 : decode cX8_tellsBest 43 = .ok (.iload_n 3, 1) := by decide +kernel
theorem dX8_tellsBest_44 : decode cX8_tellsBest 44 = .ok (.if_icmp .eq 9, 3) := by decide +kernel
theorem dX8_tellsBest_47 : decode cX8_tellsBest 47 = .ok (.iinc 4 1, 3) := by decide +kernel
theorem dX8_tellsBest_50 : decode cX8_tellsBest 50 = .ok (.goto (-15), 3) := by decide +kernel
theorem dX8_tellsBest_53 : decode cX8_tellsBest 53 = .ok (.aload_n 0, 1) := by decide +kernel
theorem dX8_tellsBest_54 : decode cX8_tellsBest 54 = .ok (.iconst 0, 1) := by decide +kernel
theorem dX8_tellsBest_55 : decode cX8_tellsBest 55 = .ok (.invokevirtual 324, 3) := by decide +kernel
theorem dX8_tellsBest_58 : decode cX8_tellsBest 58 = .ok (.aload_n 0, 1) := by decide +kernel
theorem dX8_tellsBest_59 : decode cX8_tellsBest 59 = .ok (.iload_n 1, 1) := by decide +kernel
theorem dX8_tellsBest_60 : decode cX8_tellsBest 60 = .ok (.iload_n 2, 1) := by decide +kernel
theorem dX8_tellsBest_61 : decode cX8_tellsBest 61 = .ok (.invokevirtual 327, 3) := by decide +kernel
theorem dX8_tellsBest_64 : decode cX8_tellsBest 64 = .ok (.aload_n 0, 1) := by decide +kernel
theorem dX8_tellsBest_65 : decode cX8_tellsBest 65 = .ok (.getfield 112, 3) := by decide +kernel
theorem dX8_tellsBest_68 : decode cX8_tellsBest 68 = .ok (.aload_n 0, 1) := by decide +kernel
theorem dX8_tellsBest_69 : decode cX8_tellsBest 69 = .ok (.getfield 314, 3) := by decide +kernel
theorem dX8_tellsBest_72 : decode cX8_tellsBest 72 = .ok (.iload 4, 2) := by decide +kernel
theorem dX8_tellsBest_74 : decode cX8_tellsBest 74 = .ok (.iastore, 1) := by decide +kernel
theorem dX8_tellsBest_75 : decode cX8_tellsBest 75 = .ok (.aload_n 0, 1) := by decide +kernel
theorem dX8_tellsBest_76 : decode cX8_tellsBest 76 = .ok (.dup, 1) := by decide +kernel
theorem dX8_tellsBest_77 : decode cX8_tellsBest 77 = .ok (.getfield 314, 3) := by decide +kernel
theorem dX8_tellsBest_80 : decode cX8_tellsBest 80 = .ok (.iconst 1, 1) := by decide +kernel
theorem dX8_tellsBest_81 : decode cX8_tellsBest 81 = .ok (.iadd, 1) := by decide +kernel
theorem dX8_tellsBest_82 : decode cX8_tellsBest 82 = .ok (.putfield 314, 3) := by decide +kernel
theorem dX8_tellsBest_85 : decode cX8_tellsBest 85 = .ok (.goto (-62), 3) := by decide +kernel
theorem dX8_tellsBest_88 : decode cX8_tellsBest 88 = .ok (.return_, 1) := by decide +kernel
set_option maxRecDepth 20000 in
theorem ggX8_best_X8_isMachine : GoodIn wsX8_best wsX8_isMachine := goodIn_r _ [7, 8, 9, 10, 6, 11, 75, 76, 77, 78, 79, 80, 81, 82, 83, 84, 85, 86, 87, 88, 89, 90, 91, 92, 93, 94, 95, 96, 97, 98, 99, 100, 101, 102, 103, 104, 105, 106, 107, 108, 109, 110, 111, 112, 113, 114, 115, 116, 117, 118, 119, 120, 121] (by decide +kernel) (by decide +kernel)
set_option maxRecDepth 20000 in
theorem gX8_best_X8_isMachine : GoodIn wsX8_best (wsV RX8 204 RX8 yX8_isMachine wsX8_isMachine) := goodIn_app (goodIn_of _ (by decide +kernel)) ggX8_best_X8_isMachine
set_option maxRecDepth 20000 in
theorem ggX8_best_X8_isFine : GoodIn wsX8_best wsX8_isFine := goodIn_r _ [15, 16, 75, 76, 77, 78, 79, 80, 81, 82, 83, 84, 85, 86, 87, 88, 89, 90, 91, 92, 93, 94, 95, 96, 97, 98, 99, 100, 101, 102, 103, 104, 105, 106, 107, 108, 109, 110, 111, 112, 113, 114, 115, 116, 117, 118, 119, 120, 121] (by decide +kernel) (by decide +kernel)
set_option maxRecDepth 20000 in
theorem gX8_best_X8_isFine : GoodIn wsX8_best (wsV RX8 138 RX8 yX8_isFine wsX8_isFine) := goodIn_app (goodIn_of _ (by decide +kernel)) ggX8_best_X8_isFine
set_option maxRecDepth 20000 in
theorem ggX8_best_X8_rests : GoodIn wsX8_best wsX8_rests := goodIn_r _ [20, 1, 21, 2, 22, 23, 24, 25, 26, 27, 28, 6, 29, 30, 31, 32, 33, 34, 35, 36, 37, 38, 39, 40, 41, 75, 76, 77, 78, 79, 80, 81, 82, 83, 84, 85, 86, 87, 88, 89, 90, 91, 92, 93, 94, 95, 96, 97, 98, 99, 100, 101, 102, 103, 104, 105, 106, 107, 108, 109, 110, 111, 112, 113, 114, 115, 116, 117, 118, 119, 120, 121] (by decide +kernel) (by decide +kernel)
set_option maxRecDepth 20000 in
theorem gX8_best_X8_rests : GoodIn wsX8_best (wsV RX8 303 RX8 yX8_rests wsX8_rests) := goodIn_app (goodIn_of _ (by decide +kernel)) ggX8_best_X8_rests
set_option maxRecDepth 20000 in
theorem ggX8_best_X8_tellsBest : GoodIn wsX8_best wsX8_tellsBest := goodIn_r _ [45, 1, 46, 47, 48, 49, 50, 6, 51, 52, 2, 53, 54, 55, 56, 57, 22, 21, 25, 24, 23, 58, 59, 60, 61, 41, 40, 31, 32, 33, 34, 35, 36, 37, 38, 39, 62, 63, 64, 65, 66, 26, 27, 28, 29, 30, 67, 68, 69, 70, 75, 76, 77, 78, 79, 80, 81, 82, 83, 84, 85, 86, 87, 88, 89, 90, 91, 92, 93, 94, 95, 96, 97, 98, 99, 100, 101, 102, 103, 104, 105, 106, 107, 108, 109, 110, 111, 112, 113, 114, 115, 116, 117, 118, 119, 120, 121] (by decide +kernel) (by decide +kernel)
set_option maxRecDepth 20000 in
theorem gX8_best_X8_tellsBest : GoodIn wsX8_best (wsV RX8 336 RX8 yX8_tellsBest wsX8_tellsBest) := goodIn_app (goodIn_of _ (by decide +kernel)) ggX8_best_X8_tellsBest
set_option maxRecDepth 20000 in
theorem ggX8_best_X8_letterAt : GoodIn wsX8_best wsX8_letterAt := goodIn_r _ [74, 46, 47, 75, 76, 77, 78, 79, 80, 81, 82, 83, 84, 85, 86, 87, 88, 89, 90, 91, 92, 93, 94, 95, 96, 97, 98, 99, 100, 101, 102, 103, 104, 105, 106, 107, 108, 109, 110, 111, 112, 113, 114, 115, 116, 117, 118, 119, 120, 121] (by decide +kernel) (by decide +kernel)
set_option maxRecDepth 20000 in
theorem gX8_best_X8_letterAt : GoodIn wsX8_best (wsV RX8 321 RX8 yX8_letterAt wsX8_letterAt) := goodIn_app (goodIn_of _ (by decide +kernel)) ggX8_best_X8_letterAt
theorem dX8_best_0 : decode cX8_best 0 = .ok (.aload_n 0, 1) := by decide +kernel
theorem dX8_best_1 : decode cX8_best 1 = .ok (.aload_n 0, 1) := by decide +kernel
theorem dX8_best_2 : decode cX8_best 2 = .ok (.iload_n 1, 1) := by decide +kernel
theorem dX8_best_3 : decode cX8_best 3 = .ok (.invokevirtual 204, 3) := by decide +kernel
theorem dX8_best_6 : decode cX8_best 6 = .ok (.ifCond .eq 11, 3) := by decide +kernel
theorem dX8_best_9 : decode cX8_best 9 = .ok (.iload_n 3, 1) := by decide +kernel
theorem dX8_best_10 : decode cX8_best 10 = .ok (.ifCond .lt 7, 3) := by decide +kernel
theorem dX8_best_13 : decode cX8_best 13 = .ok (.iconst 0, 1) := by decide +kernel
theorem dX8_best_14 : decode cX8_best 14 = .ok (.goto 4, 3) := by decide +kernel
theorem dX8_best_17 : decode cX8_best 17 = .ok (.iconst 1, 1) := by decide +kernel
theorem dX8_best_18 : decode cX8_best 18 = .ok (.invokevirtual 138, 3) := by decide +kernel
theorem dX8_best_21 : decode cX8_best 21 = .ok (.ifCond .ne 5, 3) := by decide +kernel
theorem dX8_best_24 : decode cX8_best 24 = .ok (.iconst 0, 1) := by decide +kernel
theorem dX8_best_25 : decode cX8_best 25 = .ok (.ireturn, 1) := by decide +kernel
theorem dX8_best_26 : decode cX8_best 26 = .ok (.aload_n 0, 1) := by decide +kernel
theorem dX8_best_27 : decode cX8_best 27 = .ok (.iload_n 1, 1) := by decide +kernel
theorem dX8_best_28 : decode cX8_best 28 = .ok (.iload_n 2, 1) := by decide +kernel
theorem dX8_best_29 : decode cX8_best 29 = .ok (.invokevirtual 303, 3) := by decide +kernel
theorem dX8_best_32 : decode cX8_best 32 = .ok (.aload_n 0, 1) := by decide +kernel
theorem dX8_best_33 : decode cX8_best 33 = .ok (.getfield 96, 3) := by decide +kernel
theorem dX8_best_36 : decode cX8_best 36 = .ok (.iconst 0, 1) := by decide +kernel
theorem dX8_best_37 : decode cX8_best 37 = .ok (.iaload, 1) := by decide +kernel
theorem dX8_best_38 : decode cX8_best 38 = .ok (.ldc_w 284, 3) := by decide +kernel
theorem dX8_best_41 : decode cX8_best 41 = .ok (.if_icmp .ne 5, 3) := by decide +kernel
theorem dX8_best_44 : decode cX8_best 44 = .ok (.iconst (-1), 1) := by decide +kernel
theorem dX8_best_45 : decode cX8_best 45 = .ok (.ireturn, 1) := by decide +kernel
theorem dX8_best_46 : decode cX8_best 46 = .ok (.aload_n 0, 1) := by decide +kernel
theorem dX8_best_47 : decode cX8_best 47 = .ok (.iload_n 1, 1) := by decide +kernel
theorem dX8_best_48 : decode cX8_best 48 = .ok (.iload_n 2, 1) := by decide +kernel
theorem dX8_best_49 : decode cX8_best 49 = .ok (.invokevirtual 336, 3) := by decide +kernel
theorem dX8_best_52 : decode cX8_best 52 = .ok (.aload_n 0, 1) := by decide +kernel
theorem dX8_best_53 : decode cX8_best 53 = .ok (.iload_n 3, 1) := by decide +kernel
theorem dX8_best_54 : decode cX8_best 54 = .ok (.invokevirtual 321, 3) := by decide +kernel
theorem dX8_best_57 : decode cX8_best 57 = .ok (.ireturn, 1) := by decide +kernel
theorem dX8_lesser_0 : decode cX8_lesser 0 = .ok (.iload_n 0, 1) := by decide +kernel
theorem dX8_lesser_1 : decode cX8_lesser 1 = .ok (.iload_n 1, 1) := by decide +kernel
theorem dX8_lesser_2 : decode cX8_lesser 2 = .ok (.if_icmp .ge 7, 3) := by decide +kernel
theorem dX8_lesser_5 : decode cX8_lesser 5 = .ok (.iload_n 0, 1) := by decide +kernel
theorem dX8_lesser_6 : decode cX8_lesser 6 = .ok (.goto 4, 3) := by decide +kernel
theorem dX8_lesser_9 : decode cX8_lesser 9 = .ok (.iload_n 1, 1) := by decide +kernel
theorem dX8_lesser_10 : decode cX8_lesser 10 = .ok (.ireturn, 1) := by decide +kernel
theorem dX8_plus_0 : decode cX8_plus 0 = .ok (.iload_n 1, 1) := by decide +kernel
theorem dX8_plus_1 : decode cX8_plus 1 = .ok (.ldc_w 284, 3) := by decide +kernel
theorem dX8_plus_4 : decode cX8_plus 4 = .ok (.if_icmp .ne 9, 3) := by decide +kernel
theorem dX8_plus_7 : decode cX8_plus 7 = .ok (.ldc_w 284, 3) := by decide +kernel
theorem dX8_plus_10 : decode cX8_plus 10 = .ok (.goto 6, 3) := by decide +kernel
theorem dX8_plus_13 : decode cX8_plus 13 = .ok (.iload_n 1, 1) := by decide +kernel
theorem dX8_plus_14 : decode cX8_plus 14 = .ok (.iload_n 2, 1) := by decide +kernel
theorem dX8_plus_15 : decode cX8_plus 15 = .ok (.iadd, 1) := by decide +kernel
theorem dX8_plus_16 : decode cX8_plus 16 = .ok (.ireturn, 1) := by decide +kernel
theorem dX8_change_0 : decode cX8_change 0 = .ok (.iload_n 2, 1) := by decide +kernel
theorem dX8_change_1 : decode cX8_change 1 = .ok (.aload_n 0, 1) := by decide +kernel
theorem dX8_change_2 : decode cX8_change 2 = .ok (.getfield 135, 3) := by decide +kernel
theorem dX8_change_5 : decode cX8_change 5 = .ok (.if_icmp .ge 22, 3) := by decide +kernel
theorem dX8_change_8 : decode cX8_change 8 = .ok (.aload_n 0, 1) := by decide +kernel
theorem dX8_change_9 : decode cX8_change 9 = .ok (.getfield 7, 3) := by decide +kernel
theorem dX8_change_12 : decode cX8_change 12 = .ok (.iload_n 2, 1) := by decide +kernel
theorem dX8_change_13 : decode cX8_change 13 = .ok (.iaload, 1) := by decide +kernel
theorem dX8_change_14 : decode cX8_change 14 = .ok (.aload_n 0, 1) := by decide +kernel
theorem dX8_change_15 : decode cX8_change 15 = .ok (.getfield 25, 3) := by decide +kernel
theorem dX8_change_18 : decode cX8_change 18 = .ok (.iload_n 1, 1) := by decide +kernel
theorem dX8_change_19 : decode cX8_change 19 = .ok (.iaload, 1) := by decide +kernel
theorem dX8_change_20 : decode cX8_change 20 = .ok (.if_icmp .ne 7, 3) := by decide +kernel
theorem dX8_change_23 : decode cX8_change 23 = .ok (.iconst 0, 1) := by decide +kernel
theorem dX8_change_24 : decode cX8_change 24 = .ok (.goto 4, 3) := by decide +kernel
theorem dX8_change_27 : decode cX8_change 27 = .ok (.iconst 1, 1) := by decide +kernel
theorem dX8_change_28 : decode cX8_change 28 = .ok (.ireturn, 1) := by decide +kernel
set_option maxRecDepth 20000 in
theorem ggX8_restsOfChanges_X8_isEndOf : GoodIn wsX8_restsOfChanges wsX8_isEndOf := goodIn_r _ [12, 13, 26, 27, 28, 29, 30, 31, 32, 33, 34, 35, 36, 37, 38, 39, 40, 41, 42, 43, 44, 45, 46, 47, 48, 49, 50, 51, 52, 53, 54, 55, 56, 57, 58, 59, 60, 61, 62, 63, 64, 65, 66, 67, 68, 69, 70, 71, 72] (by decide +kernel) (by decide +kernel)
set_option maxRecDepth 20000 in
theorem gX8_restsOfChanges_X8_isEndOf : GoodIn wsX8_restsOfChanges (wsV RX8 201 RX8 yX8_isEndOf wsX8_isEndOf) := goodIn_app (goodIn_of _ (by decide +kernel)) ggX8_restsOfChanges_X8_isEndOf
set_option maxRecDepth 20000 in
theorem ggX8_restsOfChanges_X8_plus : GoodIn wsX8_restsOfChanges wsX8_plus := goodIn_r _ [17, 3] (by decide +kernel) (by decide +kernel)
set_option maxRecDepth 20000 in
theorem gX8_restsOfChanges_X8_plus : GoodIn wsX8_restsOfChanges (wsV RX8 339 RX8 yX8_plus wsX8_plus) := goodIn_app (goodIn_of _ (by decide +kernel)) ggX8_restsOfChanges_X8_plus
set_option maxRecDepth 20000 in
theorem ggX8_restsOfChanges_X8_lesser : GoodIn wsX8_restsOfChanges wsX8_lesser := goodIn_r _ [20] (by decide +kernel) (by decide +kernel)
set_option maxRecDepth 20000 in
theorem gX8_restsOfChanges_X8_lesser : GoodIn wsX8_restsOfChanges (va_wsS RX8 342 yX8_lesser wsX8_lesser) := goodIn_app (goodIn_of _ (by decide +kernel)) ggX8_restsOfChanges_X8_lesser
set_option maxRecDepth 20000 in
theorem ggX8_restsOfChanges_X8_change : GoodIn wsX8_restsOfChanges wsX8_change := goodIn_r _ [24, 2, 25, 5, 26, 27, 28, 29, 30, 31, 32, 33, 34, 35, 36, 37, 38, 39, 40, 41, 42, 43, 44, 45, 46, 47, 48, 49, 50, 51, 52, 53, 54, 55, 56, 57, 58, 59, 60, 61, 62, 63, 64, 65, 66, 67, 68, 69, 70, 71, 72] (by decide +kernel) (by decide +kernel)
set_option maxRecDepth 20000 in
theorem gX8_restsOfChanges_X8_change : GoodIn wsX8_restsOfChanges (wsV RX8 345 RX8 yX8_change wsX8_change) := goodIn_app (goodIn_of _ (by decide +kernel)) ggX8_restsOfChanges_X8_change
theorem dX8_restsOfChanges_0 : decode cX8_restsOfChanges 0 = .ok (.iconst 0, 1) := by decide +kernel
theorem dX8_restsOfChanges_1 : decode cX8_restsOfChanges 1 = .ok (.istore_n 2, 1) := by decide +kernel
theorem dX8_restsOfChanges_2 : decode cX8_restsOfChanges 2 = .ok (.iload_n 2, 1) := by decide +kernel
theorem dX8_restsOfChanges_3 : decode cX8_restsOfChanges 3 = .ok (.sipush 288, 3) := by decide +kernel
theorem dX8_restsOfChanges_6 : decode cX8_restsOfChanges 6 = .ok (.if_icmp .ge 45, 3) := by decide +kernel
theorem dX8_restsOfChanges_9 : decode cX8_restsOfChanges 9 = .ok (.aload_n 0, 1) := by decide +kernel
theorem dX8_restsOfChanges_10 : decode cX8_restsOfChanges 10 = .ok (.getfield 96, 3) := by decide +kernel
theorem dX8_restsOfChanges_13 : decode cX8_restsOfChanges 13 = .ok (.iload_n 2, 1) := by decide +kernel
theorem dX8_restsOfChanges_14 : decode cX8_restsOfChanges 14 = .ok (.iload_n 2, 1) := by decide +kernel
theorem dX8_restsOfChanges_15 : decode cX8_restsOfChanges 15 = .ok (.bipush 32, 2) := by decide +kernel
theorem dX8_restsOfChanges_17 : decode cX8_restsOfChanges 17 = .ok (.idiv, 1) := by decide +kernel
theorem dX8_restsOfChanges_18 : decode cX8_restsOfChanges 18 = .ok (.aload_n 0, 1) := by decide +kernel
theorem dX8_restsOfChanges_19 : decode cX8_restsOfChanges 19 = .ok (.getfield 135, 3) := by decide +kernel
theorem dX8_restsOfChanges_22 : decode cX8_restsOfChanges 22 = .ok (.if_icmp .ne 19, 3) := by decide +kernel
theorem dX8_restsOfChanges_25 : decode cX8_restsOfChanges 25 = .ok (.aload_n 0, 1) := by decide +kernel
theorem dX8_restsOfChanges_26 : decode cX8_restsOfChanges 26 = .ok (.iload_n 1, 1) := by decide +kernel
theorem dX8_restsOfChanges_27 : decode cX8_restsOfChanges 27 = .ok (.iload_n 2, 1) := by decide +kernel
theorem dX8_restsOfChanges_28 : decode cX8_restsOfChanges 28 = .ok (.bipush 32, 2) := by decide +kernel
theorem dX8_restsOfChanges_30 : decode cX8_restsOfChanges 30 = .ok (.irem, 1) := by decide +kernel
theorem dX8_restsOfChanges_31 : decode cX8_restsOfChanges 31 = .ok (.invokevirtual 201, 3) := by decide +kernel
theorem dX8_restsOfChanges_34 : decode cX8_restsOfChanges 34 = .ok (.ifCond .eq 7, 3) := by decide +kernel
theorem dX8_restsOfChanges_37 : decode cX8_restsOfChanges 37 = .ok (.iconst 0, 1) := by decide +kernel
theorem dX8_restsOfChanges_38 : decode cX8_restsOfChanges 38 = .ok (.goto 6, 3) := by decide +kernel
theorem dX8_restsOfChanges_41 : decode cX8_restsOfChanges 41 = .ok (.ldc_w 284, 3) := by decide +kernel
theorem dX8_restsOfChanges_44 : decode cX8_restsOfChanges 44 = .ok (.iastore, 1) := by decide +kernel
theorem dX8_restsOfChanges_45 : decode cX8_restsOfChanges 45 = .ok (.iinc 2 1, 3) := by decide +kernel
theorem dX8_restsOfChanges_48 : decode cX8_restsOfChanges 48 = .ok (.goto (-46), 3) := by decide +kernel
theorem dX8_restsOfChanges_51 : decode cX8_restsOfChanges 51 = .ok (.iconst 1, 1) := by decide +kernel
theorem dX8_restsOfChanges_52 : decode cX8_restsOfChanges 52 = .ok (.istore_n 2, 1) := by decide +kernel
theorem dX8_restsOfChanges_53 : decode cX8_restsOfChanges 53 = .ok (.iload_n 2, 1) := by decide +kernel
theorem dX8_restsOfChanges_54 : decode cX8_restsOfChanges 54 = .ok (.ifCond .eq 315, 3) := by decide +kernel
theorem dX8_restsOfChanges_57 : decode cX8_restsOfChanges 57 = .ok (.iconst 0, 1) := by decide +kernel
theorem dX8_restsOfChanges_58 : decode cX8_restsOfChanges 58 = .ok (.istore_n 2, 1) := by decide +kernel
theorem dX8_restsOfChanges_59 : decode cX8_restsOfChanges 59 = .ok (.iconst 0, 1) := by decide +kernel
theorem dX8_restsOfChanges_60 : decode cX8_restsOfChanges 60 = .ok (.istore_n 3, 1) := by decide +kernel
theorem dX8_restsOfChanges_61 : decode cX8_restsOfChanges 61 = .ok (.iload_n 3, 1) := by decide +kernel
theorem dX8_restsOfChanges_62 : decode cX8_restsOfChanges 62 = .ok (.bipush 32, 2) := by decide +kernel
theorem dX8_restsOfChanges_64 : decode cX8_restsOfChanges 64 = .ok (.aload_n 0, 1) := by decide +kernel
theorem dX8_restsOfChanges_65 : decode cX8_restsOfChanges 65 = .ok (.getfield 135, 3) := by decide +kernel
theorem dX8_restsOfChanges_68 : decode cX8_restsOfChanges 68 = .ok (.imul, 1) := by decide +kernel
theorem dX8_restsOfChanges_69 : decode cX8_restsOfChanges 69 = .ok (.if_icmp .ge 63, 3) := by decide +kernel
theorem dX8_restsOfChanges_72 : decode cX8_restsOfChanges 72 = .ok (.aload_n 0, 1) := by decide +kernel
theorem dX8_restsOfChanges_73 : decode cX8_restsOfChanges 73 = .ok (.aload_n 0, 1) := by decide +kernel
theorem dX8_restsOfChanges_74 : decode cX8_restsOfChanges 74 = .ok (.getfield 96, 3) := by decide +kernel
theorem dX8_restsOfChanges_77 : decode cX8_restsOfChanges 77 = .ok (.iload_n 3, 1) := by decide +kernel
theorem dX8_restsOfChanges_78 : decode cX8_restsOfChanges 78 = .ok (.bipush 32, 2) := by decide +kernel
theorem dX8_restsOfChanges_80 : decode cX8_restsOfChanges 80 = .ok (.iadd, 1) := by decide +kernel
theorem dX8_restsOfChanges_81 : decode cX8_restsOfChanges 81 = .ok (.iaload, 1) := by decide +kernel
theorem dX8_restsOfChanges_82 : decode cX8_restsOfChanges 82 = .ok (.iconst 1, 1) := by decide +kernel
theorem dX8_restsOfChanges_83 : decode cX8_restsOfChanges 83 = .ok (.invokevirtual 339, 3) := by decide +kernel
theorem dX8_restsOfChanges_86 : decode cX8_restsOfChanges 86 = .ok (.istore 4, 2) := by decide +kernel
theorem dX8_restsOfChanges_88 : decode cX8_restsOfChanges 88 = .ok (.iload_n 2, 1) := by decide +kernel
theorem dX8_restsOfChanges_89 : decode cX8_restsOfChanges 89 = .ok (.ifCond .ne 14, 3) := by decide +kernel
theorem dX8_restsOfChanges_92 : decode cX8_restsOfChanges 92 = .ok (.iload 4, 2) := by decide +kernel
theorem dX8_restsOfChanges_94 : decode cX8_restsOfChanges 94 = .ok (.aload_n 0, 1) := by decide +kernel
theorem dX8_restsOfChanges_95 : decode cX8_restsOfChanges 95 = .ok (.getfield 96, 3) := by decide +kernel
theorem dX8_restsOfChanges_98 : decode cX8_restsOfChanges 98 = .ok (.iload_n 3, 1) := by decide +kernel
theorem dX8_restsOfChanges_99 : decode cX8_restsOfChanges 99 = .ok (.iaload, 1) := by decide +kernel
theorem dX8_restsOfChanges_100 : decode cX8_restsOfChanges 100 = .ok (.if_icmp .ge 7, 3) := by decide +kernel
theorem dX8_restsOfChanges_103 : decode cX8_restsOfChanges 103 = .ok (.iconst 1, 1) := by decide +kernel
theorem dX8_restsOfChanges_104 : decode cX8_restsOfChanges 104 = .ok (.goto 4, 3) := by decide +kernel
theorem dX8_restsOfChanges_107 : decode cX8_restsOfChanges 107 = .ok (.iconst 0, 1) := by decide +kernel
theorem dX8_restsOfChanges_108 : decode cX8_restsOfChanges 108 = .ok (.istore_n 2, 1) := by decide +kernel
theorem dX8_restsOfChanges_109 : decode cX8_restsOfChanges 109 = .ok (.aload_n 0, 1) := by decide +kernel
theorem dX8_restsOfChanges_110 : decode cX8_restsOfChanges 110 = .ok (.getfield 96, 3) := by decide +kernel
theorem dX8_restsOfChanges_113 : decode cX8_restsOfChanges 113 = .ok (.iload_n 3, 1) := by decide +kernel
theorem dX8_restsOfChanges_114 : decode cX8_restsOfChanges 114 = .ok (.iload 4, 2) := by decide +kernel
theorem dX8_restsOfChanges_116 : decode cX8_restsOfChanges 116 = .ok (.aload_n 0, 1) := by decide +kernel
theorem dX8_restsOfChanges_117 : decode cX8_restsOfChanges 117 = .ok (.getfield 96, 3) := by decide +kernel
theorem dX8_restsOfChanges_120 : decode cX8_restsOfChanges 120 = .ok (.iload_n 3, 1) := by decide +kernel
theorem dX8_restsOfChanges_121 : decode cX8_restsOfChanges 121 = .ok (.iaload, 1) := by decide +kernel
theorem dX8_restsOfChanges_122 : decode cX8_restsOfChanges 122 = .ok (.invokestatic 342, 3) := by decide +kernel
theorem dX8_restsOfChanges_125 : decode cX8_restsOfChanges 125 = .ok (.iastore, 1) := by decide +kernel
theorem dX8_restsOfChanges_126 : decode cX8_restsOfChanges 126 = .ok (.iinc 3 1, 3) := by decide +kernel
theorem dX8_restsOfChanges_129 : decode cX8_restsOfChanges 129 = .ok (.goto (-68), 3) := by decide +kernel
theorem dX8_restsOfChanges_132 : decode cX8_restsOfChanges 132 = .ok (.sipush 160, 3) := by decide +kernel
theorem dX8_restsOfChanges_135 : decode cX8_restsOfChanges 135 = .ok (.iload_n 1, 1) := by decide +kernel
theorem dX8_restsOfChanges_136 : decode cX8_restsOfChanges 136 = .ok (.imul, 1) := by decide +kernel
theorem dX8_restsOfChanges_137 : decode cX8_restsOfChanges 137 = .ok (.istore_n 3, 1) := by decide +kernel
theorem dX8_restsOfChanges_138 : decode cX8_restsOfChanges 138 = .ok (.iload_n 3, 1) := by decide +kernel
theorem dX8_restsOfChanges_139 : decode cX8_restsOfChanges 139 = .ok (.sipush 160, 3) := by decide +kernel
theorem dX8_restsOfChanges_142 : decode cX8_restsOfChanges 142 = .ok (.iload_n 1, 1) := by decide +kernel
theorem dX8_restsOfChanges_143 : decode cX8_restsOfChanges 143 = .ok (.imul, 1) := by decide +kernel
theorem dX8_restsOfChanges_144 : decode cX8_restsOfChanges 144 = .ok (.aload_n 0, 1) := by decide +kernel
theorem dX8_restsOfChanges_145 : decode cX8_restsOfChanges 145 = .ok (.getfield 19, 3) := by decide +kernel
theorem dX8_restsOfChanges_148 : decode cX8_restsOfChanges 148 = .ok (.iload_n 1, 1) := by decide +kernel
theorem dX8_restsOfChanges_149 : decode cX8_restsOfChanges 149 = .ok (.iaload, 1) := by decide +kernel
theorem dX8_restsOfChanges_150 : decode cX8_restsOfChanges 150 = .ok (.iadd, 1) := by decide +kernel
theorem dX8_restsOfChanges_151 : decode cX8_restsOfChanges 151 = .ok (.if_icmp .ge 215, 3) := by decide +kernel
theorem dX8_restsOfChanges_154 : decode cX8_restsOfChanges 154 = .ok (.iconst 0, 1) := by decide +kernel
theorem dX8_restsOfChanges_155 : decode cX8_restsOfChanges 155 = .ok (.istore 4, 2) := by decide +kernel
theorem dX8_restsOfChanges_157 : decode cX8_restsOfChanges 157 = .ok (.iload 4, 2) := by decide +kernel
theorem dX8_restsOfChanges_159 : decode cX8_restsOfChanges 159 = .ok (.aload_n 0, 1) := by decide +kernel
theorem dX8_restsOfChanges_160 : decode cX8_restsOfChanges 160 = .ok (.getfield 135, 3) := by decide +kernel
theorem dX8_restsOfChanges_163 : decode cX8_restsOfChanges 163 = .ok (.if_icmp .gt 197, 3) := by decide +kernel
theorem dX8_restsOfChanges_166 : decode cX8_restsOfChanges 166 = .ok (.aload_n 0, 1) := by decide +kernel
theorem dX8_restsOfChanges_167 : decode cX8_restsOfChanges 167 = .ok (.getfield 25, 3) := by decide +kernel
theorem dX8_restsOfChanges_170 : decode cX8_restsOfChanges 170 = .ok (.iload_n 3, 1) := by decide +kernel
theorem dX8_restsOfChanges_171 : decode cX8_restsOfChanges 171 = .ok (.iaload, 1) := by decide +kernel
theorem dX8_restsOfChanges_172 : decode cX8_restsOfChanges 172 = .ok (.bipush 8, 2) := by decide +kernel
theorem dX8_restsOfChanges_174 : decode cX8_restsOfChanges 174 = .ok (.if_icmp .ne 23, 3) := by decide +kernel
theorem dX8_restsOfChanges_177 : decode cX8_restsOfChanges 177 = .ok (.aload_n 0, 1) := by decide +kernel
theorem dX8_restsOfChanges_178 : decode cX8_restsOfChanges 178 = .ok (.getfield 96, 3) := by decide +kernel
theorem dX8_restsOfChanges_181 : decode cX8_restsOfChanges 181 = .ok (.bipush 32, 2) := by decide +kernel
theorem dX8_restsOfChanges_183 : decode cX8_restsOfChanges 183 = .ok (.iload 4, 2) := by decide +kernel
theorem dX8_restsOfChanges_185 : decode cX8_restsOfChanges 185 = .ok (.imul, 1) := by decide +kernel
theorem dX8_restsOfChanges_186 : decode cX8_restsOfChanges 186 = .ok (.aload_n 0, 1) := by decide +kernel
theorem dX8_restsOfChanges_187 : decode cX8_restsOfChanges 187 = .ok (.getfield 34, 3) := by decide +kernel
theorem dX8_restsOfChanges_190 : decode cX8_restsOfChanges 190 = .ok (.iload_n 3, 1) := by decide +kernel
theorem dX8_restsOfChanges_191 : decode cX8_restsOfChanges 191 = .ok (.iaload, 1) := by decide +kernel
theorem dX8_restsOfChanges_192 : decode cX8_restsOfChanges 192 = .ok (.iadd, 1) := by decide +kernel
theorem dX8_restsOfChanges_193 : decode cX8_restsOfChanges 193 = .ok (.iaload, 1) := by decide +kernel
theorem dX8_restsOfChanges_194 : decode cX8_restsOfChanges 194 = .ok (.goto 25, 3) := by decide +kernel
theorem dX8_restsOfChanges_197 : decode cX8_restsOfChanges 197 = .ok (.aload_n 0, 1) := by decide +kernel
theorem dX8_restsOfChanges_198 : decode cX8_restsOfChanges 198 = .ok (.aload_n 0, 1) := by decide +kernel
theorem dX8_restsOfChanges_199 : decode cX8_restsOfChanges 199 = .ok (.getfield 96, 3) := by decide +kernel
theorem dX8_restsOfChanges_202 : decode cX8_restsOfChanges 202 = .ok (.bipush 32, 2) := by decide +kernel
theorem dX8_restsOfChanges_204 : decode cX8_restsOfChanges 204 = .ok (.iload 4, 2) := by decide +kernel
theorem dX8_restsOfChanges_206 : decode cX8_restsOfChanges 206 = .ok (.imul, 1) := by decide +kernel
theorem dX8_restsOfChanges_207 : decode cX8_restsOfChanges 207 = .ok (.aload_n 0, 1) := by decide +kernel
theorem dX8_restsOfChanges_208 : decode cX8_restsOfChanges 208 = .ok (.getfield 34, 3) := by decide +kernel
theorem dX8_restsOfChanges_211 : decode cX8_restsOfChanges 211 = .ok (.iload_n 3, 1) := by decide +kernel
theorem dX8_restsOfChanges_212 : decode cX8_restsOfChanges 212 = .ok (.iaload, 1) := by decide +kernel
theorem dX8_restsOfChanges_213 : decode cX8_restsOfChanges 213 = .ok (.iadd, 1) := by decide +kernel
theorem dX8_restsOfChanges_214 : decode cX8_restsOfChanges 214 = .ok (.iaload, 1) := by decide +kernel
theorem dX8_restsOfChanges_215 : decode cX8_restsOfChanges 215 = .ok (.iconst 1, 1) := by decide +kernel
theorem dX8_restsOfChanges_216 : decode cX8_restsOfChanges 216 = .ok (.invokevirtual 339, 3) := by decide +kernel
theorem dX8_restsOfChanges_219 : decode cX8_restsOfChanges 219 = .ok (.istore 5, 2) := by decide +kernel
theorem dX8_restsOfChanges_221 : decode cX8_restsOfChanges 221 = .ok (.aload_n 0, 1) := by decide +kernel
theorem dX8_restsOfChanges_222 : decode cX8_restsOfChanges 222 = .ok (.getfield 25, 3) := by decide +kernel
theorem dX8_restsOfChanges_225 : decode cX8_restsOfChanges 225 = .ok (.iload_n 3, 1) := by decide +kernel
theorem dX8_restsOfChanges_226 : decode cX8_restsOfChanges 226 = .ok (.iaload, 1) := by decide +kernel
theorem dX8_restsOfChanges_227 : decode cX8_restsOfChanges 227 = .ok (.bipush 8, 2) := by decide +kernel
theorem dX8_restsOfChanges_229 : decode cX8_restsOfChanges 229 = .ok (.if_icmp .eq 50, 3) := by decide +kernel
theorem dX8_restsOfChanges_232 : decode cX8_restsOfChanges 232 = .ok (.iload 4, 2) := by decide +kernel
theorem dX8_restsOfChanges_234 : decode cX8_restsOfChanges 234 = .ok (.aload_n 0, 1) := by decide +kernel
theorem dX8_restsOfChanges_235 : decode cX8_restsOfChanges 235 = .ok (.getfield 135, 3) := by decide +kernel
theorem dX8_restsOfChanges_238 : decode cX8_restsOfChanges 238 = .ok (.if_icmp .ge 41, 3) := by decide +kernel
theorem dX8_restsOfChanges_241 : decode cX8_restsOfChanges 241 = .ok (.iload 5, 2) := by decide +kernel
theorem dX8_restsOfChanges_243 : decode cX8_restsOfChanges 243 = .ok (.aload_n 0, 1) := by decide +kernel
theorem dX8_restsOfChanges_244 : decode cX8_restsOfChanges 244 = .ok (.aload_n 0, 1) := by decide +kernel
theorem dX8_restsOfChanges_245 : decode cX8_restsOfChanges 245 = .ok (.getfield 96, 3) := by decide +kernel
theorem dX8_restsOfChanges_248 : decode cX8_restsOfChanges 248 = .ok (.bipush 32, 2) := by decide +kernel
theorem dX8_restsOfChanges_250 : decode cX8_restsOfChanges 250 = .ok (.iload 4, 2) := by decide +kernel
theorem dX8_restsOfChanges_252 : decode cX8_restsOfChanges 252 = .ok (.iconst 1, 1) := by decide +kernel
theorem dX8_restsOfChanges_253 : decode cX8_restsOfChanges 253 = .ok (.iadd, 1) := by decide +kernel
theorem dX8_restsOfChanges_254 : decode cX8_restsOfChanges 254 = .ok (.imul, 1) := by decide +kernel
theorem dX8_restsOfChanges_255 : decode cX8_restsOfChanges 255 = .ok (.aload_n 0, 1) := by decide +kernel
theorem dX8_restsOfChanges_256 : decode cX8_restsOfChanges 256 = .ok (.getfield 34, 3) := by decide +kernel
theorem dX8_restsOfChanges_259 : decode cX8_restsOfChanges 259 = .ok (.iload_n 3, 1) := by decide +kernel
theorem dX8_restsOfChanges_260 : decode cX8_restsOfChanges 260 = .ok (.iaload, 1) := by decide +kernel
theorem dX8_restsOfChanges_261 : decode cX8_restsOfChanges 261 = .ok (.iadd, 1) := by decide +kernel
theorem dX8_restsOfChanges_262 : decode cX8_restsOfChanges 262 = .ok (.iaload, 1) := by decide +kernel
theorem dX8_restsOfChanges_263 : decode cX8_restsOfChanges 263 = .ok (.aload_n 0, 1) := by decide +kernel
theorem dX8_restsOfChanges_264 : decode cX8_restsOfChanges 264 = .ok (.iload_n 3, 1) := by decide +kernel
theorem dX8_restsOfChanges_265 : decode cX8_restsOfChanges 265 = .ok (.iload 4, 2) := by decide +kernel
theorem dX8_restsOfChanges_267 : decode cX8_restsOfChanges 267 = .ok (.invokevirtual 345, 3) := by decide +kernel
theorem dX8_restsOfChanges_270 : decode cX8_restsOfChanges 270 = .ok (.invokevirtual 339, 3) := by decide +kernel
theorem dX8_restsOfChanges_273 : decode cX8_restsOfChanges 273 = .ok (.invokestatic 342, 3) := by decide +kernel
theorem dX8_restsOfChanges_276 : decode cX8_restsOfChanges 276 = .ok (.goto 5, 3) := by decide +kernel
theorem dX8_restsOfChanges_279 : decode cX8_restsOfChanges 279 = .ok (.iload 5, 2) := by decide +kernel
theorem dX8_restsOfChanges_281 : decode cX8_restsOfChanges 281 = .ok (.istore 5, 2) := by decide +kernel
theorem dX8_restsOfChanges_283 : decode cX8_restsOfChanges 283 = .ok (.iload_n 2, 1) := by decide +kernel
theorem dX8_restsOfChanges_284 : decode cX8_restsOfChanges 284 = .ok (.ifCond .ne 25, 3) := by decide +kernel
theorem dX8_restsOfChanges_287 : decode cX8_restsOfChanges 287 = .ok (.iload 5, 2) := by decide +kernel
theorem dX8_restsOfChanges_289 : decode cX8_restsOfChanges 289 = .ok (.aload_n 0, 1) := by decide +kernel
theorem dX8_restsOfChanges_290 : decode cX8_restsOfChanges 290 = .ok (.getfield 96, 3) := by decide +kernel
theorem dX8_restsOfChanges_293 : decode cX8_restsOfChanges 293 = .ok (.bipush 32, 2) := by decide +kernel
theorem dX8_restsOfChanges_295 : decode cX8_restsOfChanges 295 = .ok (.iload 4, 2) := by decide +kernel
theorem dX8_restsOfChanges_297 : decode cX8_restsOfChanges 297 = .ok (.imul, 1) := by decide +kernel
theorem dX8_restsOfChanges_298 : decode cX8_restsOfChanges 298 = .ok (.aload_n 0, 1) := by decide +kernel
theorem dX8_restsOfChanges_299 : decode cX8_restsOfChanges 299 = .ok (.getfield 22, 3) := by decide +kernel
theorem dX8_restsOfChanges_302 : decode cX8_restsOfChanges 302 = .ok (.iload_n 3, 1) := by decide +kernel
theorem dX8_restsOfChanges_303 : decode cX8_restsOfChanges 303 = .ok (.iaload, 1) := by decide +kernel
theorem dX8_restsOfChanges_304 : decode cX8_restsOfChanges 304 = .ok (.iadd, 1) := by decide +kernel
theorem dX8_restsOfChanges_305 : decode cX8_restsOfChanges 305 = .ok (.iaload, 1) := by decide +kernel
theorem dX8_restsOfChanges_306 : decode cX8_restsOfChanges 306 = .ok (.if_icmp .ge 7, 3) := by decide +kernel
theorem dX8_restsOfChanges_309 : decode cX8_restsOfChanges 309 = .ok (.iconst 1, 1) := by decide +kernel
theorem dX8_restsOfChanges_310 : decode cX8_restsOfChanges 310 = .ok (.goto 4, 3) := by decide +kernel
theorem dX8_restsOfChanges_313 : decode cX8_restsOfChanges 313 = .ok (.iconst 0, 1) := by decide +kernel
theorem dX8_restsOfChanges_314 : decode cX8_restsOfChanges 314 = .ok (.istore_n 2, 1) := by decide +kernel
theorem dX8_restsOfChanges_315 : decode cX8_restsOfChanges 315 = .ok (.aload_n 0, 1) := by decide +kernel
theorem dX8_restsOfChanges_316 : decode cX8_restsOfChanges 316 = .ok (.getfield 96, 3) := by decide +kernel
theorem dX8_restsOfChanges_319 : decode cX8_restsOfChanges 319 = .ok (.bipush 32, 2) := by decide +kernel
theorem dX8_restsOfChanges_321 : decode cX8_restsOfChanges 321 = .ok (.iload 4, 2) := by decide +kernel
theorem dX8_restsOfChanges_323 : decode cX8_restsOfChanges 323 = .ok (.imul, 1) := by decide +kernel
theorem dX8_restsOfChanges_324 : decode cX8_restsOfChanges 324 = .ok (.aload_n 0, 1) := by decide +kernel
theorem dX8_restsOfChanges_325 : decode cX8_restsOfChanges 325 = .ok (.getfield 22, 3) := by decide +kernel
theorem dX8_restsOfChanges_328 : decode cX8_restsOfChanges 328 = .ok (.iload_n 3, 1) := by decide +kernel
theorem dX8_restsOfChanges_329 : decode cX8_restsOfChanges 329 = .ok (.iaload, 1) := by decide +kernel
theorem dX8_restsOfChanges_330 : decode cX8_restsOfChanges 330 = .ok (.iadd, 1) := by decide +kernel
theorem dX8_restsOfChanges_331 : decode cX8_restsOfChanges 331 = .ok (.iload 5, 2) := by decide +kernel
theorem dX8_restsOfChanges_333 : decode cX8_restsOfChanges 333 = .ok (.aload_n 0, 1) := by decide +kernel
theorem dX8_restsOfChanges_334 : decode cX8_restsOfChanges 334 = .ok (.getfield 96, 3) := by decide +kernel
theorem dX8_restsOfChanges_337 : decode cX8_restsOfChanges 337 = .ok (.bipush 32, 2) := by decide +kernel
theorem dX8_restsOfChanges_339 : decode cX8_restsOfChanges 339 = .ok (.iload 4, 2) := by decide +kernel
theorem dX8_restsOfChanges_341 : decode cX8_restsOfChanges 341 = .ok (.imul, 1) := by decide +kernel
theorem dX8_restsOfChanges_342 : decode cX8_restsOfChanges 342 = .ok (.aload_n 0, 1) := by decide +kernel
theorem dX8_restsOfChanges_343 : decode cX8_restsOfChanges 343 = .ok (.getfield 22, 3) := by decide +kernel
theorem dX8_restsOfChanges_346 : decode cX8_restsOfChanges 346 = .ok (.iload_n 3, 1) := by decide +kernel
theorem dX8_restsOfChanges_347 : decode cX8_restsOfChanges 347 = .ok (.iaload, 1) := by decide +kernel
theorem dX8_restsOfChanges_348 : decode cX8_restsOfChanges 348 = .ok (.iadd, 1) := by decide +kernel
theorem dX8_restsOfChanges_349 : decode cX8_restsOfChanges 349 = .ok (.iaload, 1) := by decide +kernel
theorem dX8_restsOfChanges_350 : decode cX8_restsOfChanges 350 = .ok (.invokestatic 342, 3) := by decide +kernel
theorem dX8_restsOfChanges_353 : decode cX8_restsOfChanges 353 = .ok (.iastore, 1) := by decide +kernel
theorem dX8_restsOfChanges_354 : decode cX8_restsOfChanges 354 = .ok (.iinc 4 1, 3) := by decide +kernel
theorem dX8_restsOfChanges_357 : decode cX8_restsOfChanges 357 = .ok (.goto (-200), 3) := by decide +kernel
theorem dX8_restsOfChanges_360 : decode cX8_restsOfChanges 360 = .ok (.iinc 3 1, 3) := by decide +kernel
theorem dX8_restsOfChanges_363 : decode cX8_restsOfChanges 363 = .ok (.goto (-225), 3) := by decide +kernel
theorem dX8_restsOfChanges_366 : decode cX8_restsOfChanges 366 = .ok (.goto (-313), 3) := by decide +kernel
theorem dX8_restsOfChanges_369 : decode cX8_restsOfChanges 369 = .ok (.return_, 1) := by decide +kernel
set_option maxRecDepth 20000 in
theorem ggX8_closesChanges_X8_plus : GoodIn wsX8_closesChanges wsX8_plus := goodIn_r _ [11, 12] (by decide +kernel) (by decide +kernel)
set_option maxRecDepth 20000 in
theorem gX8_closesChanges_X8_plus : GoodIn wsX8_closesChanges (wsV RX8 339 RX8 yX8_plus wsX8_plus) := goodIn_app (goodIn_of _ (by decide +kernel)) ggX8_closesChanges_X8_plus
set_option maxRecDepth 20000 in
theorem ggX8_closesChanges_X8_lesser : GoodIn wsX8_closesChanges wsX8_lesser := goodIn_r _ [15] (by decide +kernel) (by decide +kernel)
set_option maxRecDepth 20000 in
theorem gX8_closesChanges_X8_lesser : GoodIn wsX8_closesChanges (va_wsS RX8 342 yX8_lesser wsX8_lesser) := goodIn_app (goodIn_of _ (by decide +kernel)) ggX8_closesChanges_X8_lesser
theorem dX8_closesChanges_0 : decode cX8_closesChanges 0 = .ok (.iconst 1, 1) := by decide +kernel
theorem dX8_closesChanges_1 : decode cX8_closesChanges 1 = .ok (.istore_n 2, 1) := by decide +kernel
theorem dX8_closesChanges_2 : decode cX8_closesChanges 2 = .ok (.iload_n 2, 1) := by decide +kernel
theorem dX8_closesChanges_3 : decode cX8_closesChanges 3 = .ok (.ifCond .eq 234, 3) := by decide +kernel
theorem dX8_closesChanges_6 : decode cX8_closesChanges 6 = .ok (.iconst 0, 1) := by decide +kernel
theorem dX8_closesChanges_7 : decode cX8_closesChanges 7 = .ok (.istore_n 2, 1) := by decide +kernel
theorem dX8_closesChanges_8 : decode cX8_closesChanges 8 = .ok (.iconst 0, 1) := by decide +kernel
theorem dX8_closesChanges_9 : decode cX8_closesChanges 9 = .ok (.istore_n 3, 1) := by decide +kernel
theorem dX8_closesChanges_10 : decode cX8_closesChanges 10 = .ok (.iload_n 3, 1) := by decide +kernel
theorem dX8_closesChanges_11 : decode cX8_closesChanges 11 = .ok (.bipush 32, 2) := by decide +kernel
theorem dX8_closesChanges_13 : decode cX8_closesChanges 13 = .ok (.aload_n 0, 1) := by decide +kernel
theorem dX8_closesChanges_14 : decode cX8_closesChanges 14 = .ok (.getfield 135, 3) := by decide +kernel
theorem dX8_closesChanges_17 : decode cX8_closesChanges 17 = .ok (.imul, 1) := by decide +kernel
theorem dX8_closesChanges_18 : decode cX8_closesChanges 18 = .ok (.if_icmp .ge 69, 3) := by decide +kernel
theorem dX8_closesChanges_21 : decode cX8_closesChanges 21 = .ok (.aload_n 0, 1) := by decide +kernel
theorem dX8_closesChanges_22 : decode cX8_closesChanges 22 = .ok (.aload_n 0, 1) := by decide +kernel
theorem dX8_closesChanges_23 : decode cX8_closesChanges 23 = .ok (.getfield 99, 3) := by decide +kernel
theorem dX8_closesChanges_26 : decode cX8_closesChanges 26 = .ok (.iload_n 3, 1) := by decide +kernel
theorem dX8_closesChanges_27 : decode cX8_closesChanges 27 = .ok (.iaload, 1) := by decide +kernel
theorem dX8_closesChanges_28 : decode cX8_closesChanges 28 = .ok (.iconst 1, 1) := by decide +kernel
theorem dX8_closesChanges_29 : decode cX8_closesChanges 29 = .ok (.invokevirtual 339, 3) := by decide +kernel
theorem dX8_closesChanges_32 : decode cX8_closesChanges 32 = .ok (.istore 4, 2) := by decide +kernel
theorem dX8_closesChanges_34 : decode cX8_closesChanges 34 = .ok (.iload_n 2, 1) := by decide +kernel
theorem dX8_closesChanges_35 : decode cX8_closesChanges 35 = .ok (.ifCond .ne 17, 3) := by decide +kernel
theorem dX8_closesChanges_38 : decode cX8_closesChanges 38 = .ok (.iload 4, 2) := by decide +kernel
theorem dX8_closesChanges_40 : decode cX8_closesChanges 40 = .ok (.aload_n 0, 1) := by decide +kernel
theorem dX8_closesChanges_41 : decode cX8_closesChanges 41 = .ok (.getfield 99, 3) := by decide +kernel
theorem dX8_closesChanges_44 : decode cX8_closesChanges 44 = .ok (.iload_n 3, 1) := by decide +kernel
theorem dX8_closesChanges_45 : decode cX8_closesChanges 45 = .ok (.bipush 32, 2) := by decide +kernel
theorem dX8_closesChanges_47 : decode cX8_closesChanges 47 = .ok (.iadd, 1) := by decide +kernel
theorem dX8_closesChanges_48 : decode cX8_closesChanges 48 = .ok (.iaload, 1) := by decide +kernel
theorem dX8_closesChanges_49 : decode cX8_closesChanges 49 = .ok (.if_icmp .ge 7, 3) := by decide +kernel
theorem dX8_closesChanges_52 : decode cX8_closesChanges 52 = .ok (.iconst 1, 1) := by decide +kernel
theorem dX8_closesChanges_53 : decode cX8_closesChanges 53 = .ok (.goto 4, 3) := by decide +kernel
theorem dX8_closesChanges_56 : decode cX8_closesChanges 56 = .ok (.iconst 0, 1) := by decide +kernel
theorem dX8_closesChanges_57 : decode cX8_closesChanges 57 = .ok (.istore_n 2, 1) := by decide +kernel
theorem dX8_closesChanges_58 : decode cX8_closesChanges 58 = .ok (.aload_n 0, 1) := by decide +kernel
theorem dX8_closesChanges_59 : decode cX8_closesChanges 59 = .ok (.getfield 99, 3) := by decide +kernel
theorem dX8_closesChanges_62 : decode cX8_closesChanges 62 = .ok (.iload_n 3, 1) := by decide +kernel
theorem dX8_closesChanges_63 : decode cX8_closesChanges 63 = .ok (.bipush 32, 2) := by decide +kernel
theorem dX8_closesChanges_65 : decode cX8_closesChanges 65 = .ok (.iadd, 1) := by decide +kernel
theorem dX8_closesChanges_66 : decode cX8_closesChanges 66 = .ok (.iload 4, 2) := by decide +kernel
theorem dX8_closesChanges_68 : decode cX8_closesChanges 68 = .ok (.aload_n 0, 1) := by decide +kernel
theorem dX8_closesChanges_69 : decode cX8_closesChanges 69 = .ok (.getfield 99, 3) := by decide +kernel
theorem dX8_closesChanges_72 : decode cX8_closesChanges 72 = .ok (.iload_n 3, 1) := by decide +kernel
theorem dX8_closesChanges_73 : decode cX8_closesChanges 73 = .ok (.bipush 32, 2) := by decide +kernel
theorem dX8_closesChanges_75 : decode cX8_closesChanges 75 = .ok (.iadd, 1) := by decide +kernel
theorem dX8_closesChanges_76 : decode cX8_closesChanges 76 = .ok (.iaload, 1) := by decide +kernel
theorem dX8_closesChanges_77 : decode cX8_closesChanges 77 = .ok (.invokestatic 342, 3) := by decide +kernel
theorem dX8_closesChanges_80 : decode cX8_closesChanges 80 = .ok (.iastore, 1) := by decide +kernel
theorem dX8_closesChanges_81 : decode cX8_closesChanges 81 = .ok (.iinc 3 1, 3) := by decide +kernel
theorem dX8_closesChanges_84 : decode cX8_closesChanges 84 = .ok (.goto (-74), 3) := by decide +kernel
theorem dX8_closesChanges_87 : decode cX8_closesChanges 87 = .ok (.sipush 160, 3) := by decide +kernel
theorem dX8_closesChanges_90 : decode cX8_closesChanges 90 = .ok (.iload_n 1, 1) := by decide +kernel
theorem dX8_closesChanges_91 : decode cX8_closesChanges 91 = .ok (.imul, 1) := by decide +kernel
theorem dX8_closesChanges_92 : decode cX8_closesChanges 92 = .ok (.istore_n 3, 1) := by decide +kernel
theorem dX8_closesChanges_93 : decode cX8_closesChanges 93 = .ok (.iload_n 3, 1) := by decide +kernel
theorem dX8_closesChanges_94 : decode cX8_closesChanges 94 = .ok (.sipush 160, 3) := by decide +kernel
theorem dX8_closesChanges_97 : decode cX8_closesChanges 97 = .ok (.iload_n 1, 1) := by decide +kernel
theorem dX8_closesChanges_98 : decode cX8_closesChanges 98 = .ok (.imul, 1) := by decide +kernel
theorem dX8_closesChanges_99 : decode cX8_closesChanges 99 = .ok (.aload_n 0, 1) := by decide +kernel
theorem dX8_closesChanges_100 : decode cX8_closesChanges 100 = .ok (.getfield 19, 3) := by decide +kernel
theorem dX8_closesChanges_103 : decode cX8_closesChanges 103 = .ok (.iload_n 1, 1) := by decide +kernel
theorem dX8_closesChanges_104 : decode cX8_closesChanges 104 = .ok (.iaload, 1) := by decide +kernel
theorem dX8_closesChanges_105 : decode cX8_closesChanges 105 = .ok (.iadd, 1) := by decide +kernel
theorem dX8_closesChanges_106 : decode cX8_closesChanges 106 = .ok (.if_icmp .ge 128, 3) := by decide +kernel
theorem dX8_closesChanges_109 : decode cX8_closesChanges 109 = .ok (.iconst 0, 1) := by decide +kernel
theorem dX8_closesChanges_110 : decode cX8_closesChanges 110 = .ok (.istore 4, 2) := by decide +kernel
theorem dX8_closesChanges_112 : decode cX8_closesChanges 112 = .ok (.iload 4, 2) := by decide +kernel
theorem dX8_closesChanges_114 : decode cX8_closesChanges 114 = .ok (.aload_n 0, 1) := by decide +kernel
theorem dX8_closesChanges_115 : decode cX8_closesChanges 115 = .ok (.getfield 135, 3) := by decide +kernel
theorem dX8_closesChanges_118 : decode cX8_closesChanges 118 = .ok (.if_icmp .gt 110, 3) := by decide +kernel
theorem dX8_closesChanges_121 : decode cX8_closesChanges 121 = .ok (.aload_n 0, 1) := by decide +kernel
theorem dX8_closesChanges_122 : decode cX8_closesChanges 122 = .ok (.getfield 25, 3) := by decide +kernel
theorem dX8_closesChanges_125 : decode cX8_closesChanges 125 = .ok (.iload_n 3, 1) := by decide +kernel
theorem dX8_closesChanges_126 : decode cX8_closesChanges 126 = .ok (.iaload, 1) := by decide +kernel
theorem dX8_closesChanges_127 : decode cX8_closesChanges 127 = .ok (.bipush 8, 2) := by decide +kernel
theorem dX8_closesChanges_129 : decode cX8_closesChanges 129 = .ok (.if_icmp .ne 99, 3) := by decide +kernel
theorem dX8_closesChanges_132 : decode cX8_closesChanges 132 = .ok (.aload_n 0, 1) := by decide +kernel
theorem dX8_closesChanges_133 : decode cX8_closesChanges 133 = .ok (.getfield 99, 3) := by decide +kernel
theorem dX8_closesChanges_136 : decode cX8_closesChanges 136 = .ok (.bipush 32, 2) := by decide +kernel
theorem dX8_closesChanges_138 : decode cX8_closesChanges 138 = .ok (.iload 4, 2) := by decide +kernel
theorem dX8_closesChanges_140 : decode cX8_closesChanges 140 = .ok (.imul, 1) := by decide +kernel
theorem dX8_closesChanges_141 : decode cX8_closesChanges 141 = .ok (.aload_n 0, 1) := by decide +kernel
theorem dX8_closesChanges_142 : decode cX8_closesChanges 142 = .ok (.getfield 22, 3) := by decide +kernel
theorem dX8_closesChanges_145 : decode cX8_closesChanges 145 = .ok (.iload_n 3, 1) := by decide +kernel
theorem dX8_closesChanges_146 : decode cX8_closesChanges 146 = .ok (.iaload, 1) := by decide +kernel
theorem dX8_closesChanges_147 : decode cX8_closesChanges 147 = .ok (.iadd, 1) := by decide +kernel
theorem dX8_closesChanges_148 : decode cX8_closesChanges 148 = .ok (.iaload, 1) := by decide +kernel
theorem dX8_closesChanges_149 : decode cX8_closesChanges 149 = .ok (.istore 5, 2) := by decide +kernel
theorem dX8_closesChanges_151 : decode cX8_closesChanges 151 = .ok (.iload_n 2, 1) := by decide +kernel
theorem dX8_closesChanges_152 : decode cX8_closesChanges 152 = .ok (.ifCond .ne 25, 3) := by decide +kernel
theorem dX8_closesChanges_155 : decode cX8_closesChanges 155 = .ok (.iload 5, 2) := by decide +kernel
theorem dX8_closesChanges_157 : decode cX8_closesChanges 157 = .ok (.aload_n 0, 1) := by decide +kernel
theorem dX8_closesChanges_158 : decode cX8_closesChanges 158 = .ok (.getfield 99, 3) := by decide +kernel
theorem dX8_closesChanges_161 : decode cX8_closesChanges 161 = .ok (.bipush 32, 2) := by decide +kernel
theorem dX8_closesChanges_163 : decode cX8_closesChanges 163 = .ok (.iload 4, 2) := by decide +kernel
theorem dX8_closesChanges_165 : decode cX8_closesChanges 165 = .ok (.imul, 1) := by decide +kernel
theorem dX8_closesChanges_166 : decode cX8_closesChanges 166 = .ok (.aload_n 0, 1) := by decide +kernel
theorem dX8_closesChanges_167 : decode cX8_closesChanges 167 = .ok (.getfield 34, 3) := by decide +kernel
theorem dX8_closesChanges_170 : decode cX8_closesChanges 170 = .ok (.iload_n 3, 1) := by decide +kernel
theorem dX8_closesChanges_171 : decode cX8_closesChanges 171 = .ok (.iaload, 1) := by decide +kernel
theorem dX8_closesChanges_172 : decode cX8_closesChanges 172 = .ok (.iadd, 1) := by decide +kernel
theorem dX8_closesChanges_173 : decode cX8_closesChanges 173 = .ok (.iaload, 1) := by decide +kernel
theorem dX8_closesChanges_174 : decode cX8_closesChanges 174 = .ok (.if_icmp .ge 7, 3) := by decide +kernel
theorem dX8_closesChanges_177 : decode cX8_closesChanges 177 = .ok (.iconst 1, 1) := by decide +kernel
theorem dX8_closesChanges_178 : decode cX8_closesChanges 178 = .ok (.goto 4, 3) := by decide +kernel
theorem dX8_closesChanges_181 : decode cX8_closesChanges 181 = .ok (.iconst 0, 1) := by decide +kernel
theorem dX8_closesChanges_182 : decode cX8_closesChanges 182 = .ok (.istore_n 2, 1) := by decide +kernel
theorem dX8_closesChanges_183 : decode cX8_closesChanges 183 = .ok (.aload_n 0, 1) := by decide +kernel
theorem dX8_closesChanges_184 : decode cX8_closesChanges 184 = .ok (.getfield 99, 3) := by decide +kernel
theorem dX8_closesChanges_187 : decode cX8_closesChanges 187 = .ok (.bipush 32, 2) := by decide +kernel
theorem dX8_closesChanges_189 : decode cX8_closesChanges 189 = .ok (.iload 4, 2) := by decide +kernel
theorem dX8_closesChanges_191 : decode cX8_closesChanges 191 = .ok (.imul, 1) := by decide +kernel
theorem dX8_closesChanges_192 : decode cX8_closesChanges 192 = .ok (.aload_n 0, 1) := by decide +kernel
theorem dX8_closesChanges_193 : decode cX8_closesChanges 193 = .ok (.getfield 34, 3) := by decide +kernel
theorem dX8_closesChanges_196 : decode cX8_closesChanges 196 = .ok (.iload_n 3, 1) := by decide +kernel
theorem dX8_closesChanges_197 : decode cX8_closesChanges 197 = .ok (.iaload, 1) := by decide +kernel
theorem dX8_closesChanges_198 : decode cX8_closesChanges 198 = .ok (.iadd, 1) := by decide +kernel
theorem dX8_closesChanges_199 : decode cX8_closesChanges 199 = .ok (.iload 5, 2) := by decide +kernel
theorem dX8_closesChanges_201 : decode cX8_closesChanges 201 = .ok (.aload_n 0, 1) := by decide +kernel
theorem dX8_closesChanges_202 : decode cX8_closesChanges 202 = .ok (.getfield 99, 3) := by decide +kernel
theorem dX8_closesChanges_205 : decode cX8_closesChanges 205 = .ok (.bipush 32, 2) := by decide +kernel
theorem dX8_closesChanges_207 : decode cX8_closesChanges 207 = .ok (.iload 4, 2) := by decide +kernel
theorem dX8_closesChanges_209 : decode cX8_closesChanges 209 = .ok (.imul, 1) := by decide +kernel
theorem dX8_closesChanges_210 : decode cX8_closesChanges 210 = .ok (.aload_n 0, 1) := by decide +kernel
theorem dX8_closesChanges_211 : decode cX8_closesChanges 211 = .ok (.getfield 34, 3) := by decide +kernel
theorem dX8_closesChanges_214 : decode cX8_closesChanges 214 = .ok (.iload_n 3, 1) := by decide +kernel
theorem dX8_closesChanges_215 : decode cX8_closesChanges 215 = .ok (.iaload, 1) := by decide +kernel
theorem dX8_closesChanges_216 : decode cX8_closesChanges 216 = .ok (.iadd, 1) := by decide +kernel
theorem dX8_closesChanges_217 : decode cX8_closesChanges 217 = .ok (.iaload, 1) := by decide +kernel
theorem dX8_closesChanges_218 : decode cX8_closesChanges 218 = .ok (.invokestatic 342, 3) := by decide +kernel
theorem dX8_closesChanges_221 : decode cX8_closesChanges 221 = .ok (.iastore, 1) := by decide +kernel
theorem dX8_closesChanges_222 : decode cX8_closesChanges 222 = .ok (.iinc 4 1, 3) := by decide +kernel
theorem dX8_closesChanges_225 : decode cX8_closesChanges 225 = .ok (.goto (-113), 3) := by decide +kernel
theorem dX8_closesChanges_228 : decode cX8_closesChanges 228 = .ok (.iinc 3 1, 3) := by decide +kernel
theorem dX8_closesChanges_231 : decode cX8_closesChanges 231 = .ok (.goto (-138), 3) := by decide +kernel
theorem dX8_closesChanges_234 : decode cX8_closesChanges 234 = .ok (.goto (-232), 3) := by decide +kernel
theorem dX8_closesChanges_237 : decode cX8_closesChanges 237 = .ok (.return_, 1) := by decide +kernel
set_option maxRecDepth 20000 in
theorem ggX8_goesChanged_X8_plus : GoodIn wsX8_goesChanged wsX8_plus := goodIn_r _ [14, 2] (by decide +kernel) (by decide +kernel)
set_option maxRecDepth 20000 in
theorem gX8_goesChanged_X8_plus : GoodIn wsX8_goesChanged (wsV RX8 339 RX8 yX8_plus wsX8_plus) := goodIn_app (goodIn_of _ (by decide +kernel)) ggX8_goesChanged_X8_plus
set_option maxRecDepth 20000 in
theorem ggX8_goesChanged_X8_lesser : GoodIn wsX8_goesChanged wsX8_lesser := goodIn_r _ [17] (by decide +kernel) (by decide +kernel)
set_option maxRecDepth 20000 in
theorem gX8_goesChanged_X8_lesser : GoodIn wsX8_goesChanged (va_wsS RX8 342 yX8_lesser wsX8_lesser) := goodIn_app (goodIn_of _ (by decide +kernel)) ggX8_goesChanged_X8_lesser
set_option maxRecDepth 20000 in
theorem ggX8_goesChanged_X8_change : GoodIn wsX8_goesChanged wsX8_change := goodIn_r _ [21, 4, 22, 5, 23, 24, 25, 26, 27, 28, 29, 30, 31, 32, 33, 34, 35, 36, 37, 38, 39, 40, 41, 42, 43, 44, 45, 46, 47, 48, 49, 50, 51, 52, 53, 54, 55, 56, 57, 58, 59, 60, 61, 62, 63, 64, 65, 66, 67, 68, 69] (by decide +kernel) (by decide +kernel)
set_option maxRecDepth 20000 in
theorem gX8_goesChanged_X8_change : GoodIn wsX8_goesChanged (wsV RX8 345 RX8 yX8_change wsX8_change) := goodIn_app (goodIn_of _ (by decide +kernel)) ggX8_goesChanged_X8_change
theorem dX8_goesChanged_0 : decode cX8_goesChanged 0 = .ok (.iconst 0, 1) := by decide +kernel
theorem dX8_goesChanged_1 : decode cX8_goesChanged 1 = .ok (.istore_n 3, 1) := by decide +kernel
theorem dX8_goesChanged_2 : decode cX8_goesChanged 2 = .ok (.iload_n 3, 1) := by decide +kernel
theorem dX8_goesChanged_3 : decode cX8_goesChanged 3 = .ok (.sipush 288, 3) := by decide +kernel
theorem dX8_goesChanged_6 : decode cX8_goesChanged 6 = .ok (.if_icmp .ge 18, 3) := by decide +kernel
theorem dX8_goesChanged_9 : decode cX8_goesChanged 9 = .ok (.aload_n 0, 1) := by decide +kernel
theorem dX8_goesChanged_10 : decode cX8_goesChanged 10 = .ok (.getfield 102, 3) := by decide +kernel
theorem dX8_goesChanged_13 : decode cX8_goesChanged 13 = .ok (.iload_n 3, 1) := by decide +kernel
theorem dX8_goesChanged_14 : decode cX8_goesChanged 14 = .ok (.ldc_w 284, 3) := by decide +kernel
theorem dX8_goesChanged_17 : decode cX8_goesChanged 17 = .ok (.iastore, 1) := by decide +kernel
theorem dX8_goesChanged_18 : decode cX8_goesChanged 18 = .ok (.iinc 3 1, 3) := by decide +kernel
theorem dX8_goesChanged_21 : decode cX8_goesChanged 21 = .ok (.goto (-19), 3) := by decide +kernel
theorem dX8_goesChanged_24 : decode cX8_goesChanged 24 = .ok (.sipush 160, 3) := by decide +kernel
theorem dX8_goesChanged_27 : decode cX8_goesChanged 27 = .ok (.iload_n 1, 1) := by decide +kernel
theorem dX8_goesChanged_28 : decode cX8_goesChanged 28 = .ok (.imul, 1) := by decide +kernel
theorem dX8_goesChanged_29 : decode cX8_goesChanged 29 = .ok (.istore_n 3, 1) := by decide +kernel
theorem dX8_goesChanged_30 : decode cX8_goesChanged 30 = .ok (.iload_n 3, 1) := by decide +kernel
theorem dX8_goesChanged_31 : decode cX8_goesChanged 31 = .ok (.sipush 160, 3) := by decide +kernel
theorem dX8_goesChanged_34 : decode cX8_goesChanged 34 = .ok (.iload_n 1, 1) := by decide +kernel
theorem dX8_goesChanged_35 : decode cX8_goesChanged 35 = .ok (.imul, 1) := by decide +kernel
theorem dX8_goesChanged_36 : decode cX8_goesChanged 36 = .ok (.aload_n 0, 1) := by decide +kernel
theorem dX8_goesChanged_37 : decode cX8_goesChanged 37 = .ok (.getfield 19, 3) := by decide +kernel
theorem dX8_goesChanged_40 : decode cX8_goesChanged 40 = .ok (.iload_n 1, 1) := by decide +kernel
theorem dX8_goesChanged_41 : decode cX8_goesChanged 41 = .ok (.iaload, 1) := by decide +kernel
theorem dX8_goesChanged_42 : decode cX8_goesChanged 42 = .ok (.iadd, 1) := by decide +kernel
theorem dX8_goesChanged_43 : decode cX8_goesChanged 43 = .ok (.if_icmp .ge 163, 3) := by decide +kernel
theorem dX8_goesChanged_46 : decode cX8_goesChanged 46 = .ok (.iconst 0, 1) := by decide +kernel
theorem dX8_goesChanged_47 : decode cX8_goesChanged 47 = .ok (.istore 4, 2) := by decide +kernel
theorem dX8_goesChanged_49 : decode cX8_goesChanged 49 = .ok (.iload 4, 2) := by decide +kernel
theorem dX8_goesChanged_51 : decode cX8_goesChanged 51 = .ok (.aload_n 0, 1) := by decide +kernel
theorem dX8_goesChanged_52 : decode cX8_goesChanged 52 = .ok (.getfield 135, 3) := by decide +kernel
theorem dX8_goesChanged_55 : decode cX8_goesChanged 55 = .ok (.if_icmp .gt 145, 3) := by decide +kernel
theorem dX8_goesChanged_58 : decode cX8_goesChanged 58 = .ok (.aload_n 0, 1) := by decide +kernel
theorem dX8_goesChanged_59 : decode cX8_goesChanged 59 = .ok (.getfield 25, 3) := by decide +kernel
theorem dX8_goesChanged_62 : decode cX8_goesChanged 62 = .ok (.iload_n 3, 1) := by decide +kernel
theorem dX8_goesChanged_63 : decode cX8_goesChanged 63 = .ok (.iaload, 1) := by decide +kernel
theorem dX8_goesChanged_64 : decode cX8_goesChanged 64 = .ok (.iload_n 2, 1) := by decide +kernel
theorem dX8_goesChanged_65 : decode cX8_goesChanged 65 = .ok (.if_icmp .ne 135, 3) := by decide +kernel
theorem dX8_goesChanged_68 : decode cX8_goesChanged 68 = .ok (.aload_n 0, 1) := by decide +kernel
theorem dX8_goesChanged_69 : decode cX8_goesChanged 69 = .ok (.getfield 99, 3) := by decide +kernel
theorem dX8_goesChanged_72 : decode cX8_goesChanged 72 = .ok (.bipush 32, 2) := by decide +kernel
theorem dX8_goesChanged_74 : decode cX8_goesChanged 74 = .ok (.iload 4, 2) := by decide +kernel
theorem dX8_goesChanged_76 : decode cX8_goesChanged 76 = .ok (.imul, 1) := by decide +kernel
theorem dX8_goesChanged_77 : decode cX8_goesChanged 77 = .ok (.aload_n 0, 1) := by decide +kernel
theorem dX8_goesChanged_78 : decode cX8_goesChanged 78 = .ok (.getfield 22, 3) := by decide +kernel
theorem dX8_goesChanged_81 : decode cX8_goesChanged 81 = .ok (.iload_n 3, 1) := by decide +kernel
theorem dX8_goesChanged_82 : decode cX8_goesChanged 82 = .ok (.iaload, 1) := by decide +kernel
theorem dX8_goesChanged_83 : decode cX8_goesChanged 83 = .ok (.iadd, 1) := by decide +kernel
theorem dX8_goesChanged_84 : decode cX8_goesChanged 84 = .ok (.iaload, 1) := by decide +kernel
theorem dX8_goesChanged_85 : decode cX8_goesChanged 85 = .ok (.istore 5, 2) := by decide +kernel
theorem dX8_goesChanged_87 : decode cX8_goesChanged 87 = .ok (.aload_n 0, 1) := by decide +kernel
theorem dX8_goesChanged_88 : decode cX8_goesChanged 88 = .ok (.getfield 102, 3) := by decide +kernel
theorem dX8_goesChanged_91 : decode cX8_goesChanged 91 = .ok (.bipush 32, 2) := by decide +kernel
theorem dX8_goesChanged_93 : decode cX8_goesChanged 93 = .ok (.iload 4, 2) := by decide +kernel
theorem dX8_goesChanged_95 : decode cX8_goesChanged 95 = .ok (.imul, 1) := by decide +kernel
theorem dX8_goesChanged_96 : decode cX8_goesChanged 96 = .ok (.aload_n 0, 1) := by decide +kernel
theorem dX8_goesChanged_97 : decode cX8_goesChanged 97 = .ok (.getfield 34, 3) := by decide +kernel
theorem dX8_goesChanged_100 : decode cX8_goesChanged 100 = .ok (.iload_n 3, 1) := by decide +kernel
theorem dX8_goesChanged_101 : decode cX8_goesChanged 101 = .ok (.iaload, 1) := by decide +kernel
theorem dX8_goesChanged_102 : decode cX8_goesChanged 102 = .ok (.iadd, 1) := by decide +kernel
theorem dX8_goesChanged_103 : decode cX8_goesChanged 103 = .ok (.aload_n 0, 1) := by decide +kernel
theorem dX8_goesChanged_104 : decode cX8_goesChanged 104 = .ok (.getfield 102, 3) := by decide +kernel
theorem dX8_goesChanged_107 : decode cX8_goesChanged 107 = .ok (.bipush 32, 2) := by decide +kernel
theorem dX8_goesChanged_109 : decode cX8_goesChanged 109 = .ok (.iload 4, 2) := by decide +kernel
theorem dX8_goesChanged_111 : decode cX8_goesChanged 111 = .ok (.imul, 1) := by decide +kernel
theorem dX8_goesChanged_112 : decode cX8_goesChanged 112 = .ok (.aload_n 0, 1) := by decide +kernel
theorem dX8_goesChanged_113 : decode cX8_goesChanged 113 = .ok (.getfield 34, 3) := by decide +kernel
theorem dX8_goesChanged_116 : decode cX8_goesChanged 116 = .ok (.iload_n 3, 1) := by decide +kernel
theorem dX8_goesChanged_117 : decode cX8_goesChanged 117 = .ok (.iaload, 1) := by decide +kernel
theorem dX8_goesChanged_118 : decode cX8_goesChanged 118 = .ok (.iadd, 1) := by decide +kernel
theorem dX8_goesChanged_119 : decode cX8_goesChanged 119 = .ok (.iaload, 1) := by decide +kernel
theorem dX8_goesChanged_120 : decode cX8_goesChanged 120 = .ok (.aload_n 0, 1) := by decide +kernel
theorem dX8_goesChanged_121 : decode cX8_goesChanged 121 = .ok (.iload 5, 2) := by decide +kernel
theorem dX8_goesChanged_123 : decode cX8_goesChanged 123 = .ok (.iconst 1, 1) := by decide +kernel
theorem dX8_goesChanged_124 : decode cX8_goesChanged 124 = .ok (.invokevirtual 339, 3) := by decide +kernel
theorem dX8_goesChanged_127 : decode cX8_goesChanged 127 = .ok (.invokestatic 342, 3) := by decide +kernel
theorem dX8_goesChanged_130 : decode cX8_goesChanged 130 = .ok (.iastore, 1) := by decide +kernel
theorem dX8_goesChanged_131 : decode cX8_goesChanged 131 = .ok (.iload 4, 2) := by decide +kernel
theorem dX8_goesChanged_133 : decode cX8_goesChanged 133 = .ok (.aload_n 0, 1) := by decide +kernel
theorem dX8_goesChanged_134 : decode cX8_goesChanged 134 = .ok (.getfield 135, 3) := by decide +kernel
theorem dX8_goesChanged_137 : decode cX8_goesChanged 137 = .ok (.if_icmp .ge 57, 3) := by decide +kernel
theorem dX8_goesChanged_140 : decode cX8_goesChanged 140 = .ok (.aload_n 0, 1) := by decide +kernel
theorem dX8_goesChanged_141 : decode cX8_goesChanged 141 = .ok (.getfield 102, 3) := by decide +kernel
theorem dX8_goesChanged_144 : decode cX8_goesChanged 144 = .ok (.bipush 32, 2) := by decide +kernel
theorem dX8_goesChanged_146 : decode cX8_goesChanged 146 = .ok (.iload 4, 2) := by decide +kernel
theorem dX8_goesChanged_148 : decode cX8_goesChanged 148 = .ok (.iconst 1, 1) := by decide +kernel
theorem dX8_goesChanged_149 : decode cX8_goesChanged 149 = .ok (.iadd, 1) := by decide +kernel
theorem dX8_goesChanged_150 : decode cX8_goesChanged 150 = .ok (.imul, 1) := by decide +kernel
theorem dX8_goesChanged_151 : decode cX8_goesChanged 151 = .ok (.aload_n 0, 1) := by decide +kernel
theorem dX8_goesChanged_152 : decode cX8_goesChanged 152 = .ok (.getfield 34, 3) := by decide +kernel
theorem dX8_goesChanged_155 : decode cX8_goesChanged 155 = .ok (.iload_n 3, 1) := by decide +kernel
theorem dX8_goesChanged_156 : decode cX8_goesChanged 156 = .ok (.iaload, 1) := by decide +kernel
theorem dX8_goesChanged_157 : decode cX8_goesChanged 157 = .ok (.iadd, 1) := by decide +kernel
theorem dX8_goesChanged_158 : decode cX8_goesChanged 158 = .ok (.aload_n 0, 1) := by decide +kernel
theorem dX8_goesChanged_159 : decode cX8_goesChanged 159 = .ok (.getfield 102, 3) := by decide +kernel
theorem dX8_goesChanged_162 : decode cX8_goesChanged 162 = .ok (.bipush 32, 2) := by decide +kernel
theorem dX8_goesChanged_164 : decode cX8_goesChanged 164 = .ok (.iload 4, 2) := by decide +kernel
theorem dX8_goesChanged_166 : decode cX8_goesChanged 166 = .ok (.iconst 1, 1) := by decide +kernel
theorem dX8_goesChanged_167 : decode cX8_goesChanged 167 = .ok (.iadd, 1) := by decide +kernel
theorem dX8_goesChanged_168 : decode cX8_goesChanged 168 = .ok (.imul, 1) := by decide +kernel
theorem dX8_goesChanged_169 : decode cX8_goesChanged 169 = .ok (.aload_n 0, 1) := by decide +kernel
theorem dX8_goesChanged_170 : decode cX8_goesChanged 170 = .ok (.getfield 34, 3) := by decide +kernel
theorem dX8_goesChanged_173 : decode cX8_goesChanged 173 = .ok (.iload_n 3, 1) := by decide +kernel
theorem dX8_goesChanged_174 : decode cX8_goesChanged 174 = .ok (.iaload, 1) := by decide +kernel
theorem dX8_goesChanged_175 : decode cX8_goesChanged 175 = .ok (.iadd, 1) := by decide +kernel
theorem dX8_goesChanged_176 : decode cX8_goesChanged 176 = .ok (.iaload, 1) := by decide +kernel
theorem dX8_goesChanged_177 : decode cX8_goesChanged 177 = .ok (.aload_n 0, 1) := by decide +kernel
theorem dX8_goesChanged_178 : decode cX8_goesChanged 178 = .ok (.iload 5, 2) := by decide +kernel
theorem dX8_goesChanged_180 : decode cX8_goesChanged 180 = .ok (.aload_n 0, 1) := by decide +kernel
theorem dX8_goesChanged_181 : decode cX8_goesChanged 181 = .ok (.iload_n 3, 1) := by decide +kernel
theorem dX8_goesChanged_182 : decode cX8_goesChanged 182 = .ok (.iload 4, 2) := by decide +kernel
theorem dX8_goesChanged_184 : decode cX8_goesChanged 184 = .ok (.invokevirtual 345, 3) := by decide +kernel
theorem dX8_goesChanged_187 : decode cX8_goesChanged 187 = .ok (.invokevirtual 339, 3) := by decide +kernel
theorem dX8_goesChanged_190 : decode cX8_goesChanged 190 = .ok (.invokestatic 342, 3) := by decide +kernel
theorem dX8_goesChanged_193 : decode cX8_goesChanged 193 = .ok (.iastore, 1) := by decide +kernel
theorem dX8_goesChanged_194 : decode cX8_goesChanged 194 = .ok (.iinc 4 1, 3) := by decide +kernel
theorem dX8_goesChanged_197 : decode cX8_goesChanged 197 = .ok (.goto (-148), 3) := by decide +kernel
theorem dX8_goesChanged_200 : decode cX8_goesChanged 200 = .ok (.iinc 3 1, 3) := by decide +kernel
theorem dX8_goesChanged_203 : decode cX8_goesChanged 203 = .ok (.goto (-173), 3) := by decide +kernel
theorem dX8_goesChanged_206 : decode cX8_goesChanged 206 = .ok (.ldc_w 284, 3) := by decide +kernel
theorem dX8_goesChanged_209 : decode cX8_goesChanged 209 = .ok (.istore_n 3, 1) := by decide +kernel
theorem dX8_goesChanged_210 : decode cX8_goesChanged 210 = .ok (.iconst 0, 1) := by decide +kernel
theorem dX8_goesChanged_211 : decode cX8_goesChanged 211 = .ok (.istore 4, 2) := by decide +kernel
theorem dX8_goesChanged_213 : decode cX8_goesChanged 213 = .ok (.iload 4, 2) := by decide +kernel
theorem dX8_goesChanged_215 : decode cX8_goesChanged 215 = .ok (.sipush 288, 3) := by decide +kernel
theorem dX8_goesChanged_218 : decode cX8_goesChanged 218 = .ok (.if_icmp .ge 59, 3) := by decide +kernel
theorem dX8_goesChanged_221 : decode cX8_goesChanged 221 = .ok (.aload_n 0, 1) := by decide +kernel
theorem dX8_goesChanged_222 : decode cX8_goesChanged 222 = .ok (.getfield 102, 3) := by decide +kernel
theorem dX8_goesChanged_225 : decode cX8_goesChanged 225 = .ok (.iload 4, 2) := by decide +kernel
theorem dX8_goesChanged_227 : decode cX8_goesChanged 227 = .ok (.iaload, 1) := by decide +kernel
theorem dX8_goesChanged_228 : decode cX8_goesChanged 228 = .ok (.ldc_w 284, 3) := by decide +kernel
theorem dX8_goesChanged_231 : decode cX8_goesChanged 231 = .ok (.if_icmp .eq 16, 3) := by decide +kernel
theorem dX8_goesChanged_234 : decode cX8_goesChanged 234 = .ok (.aload_n 0, 1) := by decide +kernel
theorem dX8_goesChanged_235 : decode cX8_goesChanged 235 = .ok (.getfield 96, 3) := by decide +kernel
theorem dX8_goesChanged_238 : decode cX8_goesChanged 238 = .ok (.iload 4, 2) := by decide +kernel
theorem dX8_goesChanged_240 : decode cX8_goesChanged 240 = .ok (.iaload, 1) := by decide +kernel
theorem dX8_goesChanged_241 : decode cX8_goesChanged 241 = .ok (.ldc_w 284, 3) := by decide +kernel
theorem dX8_goesChanged_244 : decode cX8_goesChanged 244 = .ok (.if_icmp .ne 7, 3) := by decide +kernel
theorem dX8_goesChanged_247 : decode cX8_goesChanged 247 = .ok (.iload_n 3, 1) := by decide +kernel
theorem dX8_goesChanged_248 : decode cX8_goesChanged 248 = .ok (.goto 22, 3) := by decide +kernel
theorem dX8_goesChanged_251 : decode cX8_goesChanged 251 = .ok (.iload_n 3, 1) := by decide +kernel
theorem dX8_goesChanged_252 : decode cX8_goesChanged 252 = .ok (.aload_n 0, 1) := by decide +kernel
theorem dX8_goesChanged_253 : decode cX8_goesChanged 253 = .ok (.getfield 102, 3) := by decide +kernel
theorem dX8_goesChanged_256 : decode cX8_goesChanged 256 = .ok (.iload 4, 2) := by decide +kernel
theorem dX8_goesChanged_258 : decode cX8_goesChanged 258 = .ok (.iaload, 1) := by decide +kernel
theorem dX8_goesChanged_259 : decode cX8_goesChanged 259 = .ok (.aload_n 0, 1) := by decide +kernel
theorem dX8_goesChanged_260 : decode cX8_goesChanged 260 = .ok (.getfield 96, 3) := by decide +kernel
theorem dX8_goesChanged_263 : decode cX8_goesChanged 263 = .ok (.iload 4, 2) := by decide +kernel
theorem dX8_goesChanged_265 : decode cX8_goesChanged 265 = .ok (.iaload, 1) := by decide +kernel
theorem dX8_goesChanged_266 : decode cX8_goesChanged 266 = .ok (.iadd, 1) := by decide +kernel
theorem dX8_goesChanged_267 : decode cX8_goesChanged 267 = .ok (.invokestatic 342, 3) := by decide +kernel
theorem dX8_goesChanged_270 : decode cX8_goesChanged 270 = .ok (.istore_n 3, 1) := by decide +kernel
theorem dX8_goesChanged_271 : decode cX8_goesChanged 271 = .ok (.iinc 4 1, 3) := by decide +kernel
theorem dX8_goesChanged_274 : decode cX8_goesChanged 274 = .ok (.goto (-61), 3) := by decide +kernel
theorem dX8_goesChanged_277 : decode cX8_goesChanged 277 = .ok (.iload_n 3, 1) := by decide +kernel
theorem dX8_goesChanged_278 : decode cX8_goesChanged 278 = .ok (.ireturn, 1) := by decide +kernel
set_option maxRecDepth 20000 in
theorem ggX8_changes_X8_isMachine : GoodIn wsX8_changes wsX8_isMachine := goodIn_r _ [7, 8, 9, 10, 6, 11, 43, 44, 45, 46, 47, 48, 49, 50, 51, 52, 53, 54, 55, 56, 57, 58, 59, 60, 61, 62, 63, 64, 65, 66, 67, 68, 69, 70, 71, 72, 73, 74, 75, 76, 77, 78, 79, 80, 81, 82, 83, 84, 85, 86, 87, 88, 89] (by decide +kernel) (by decide +kernel)
set_option maxRecDepth 20000 in
theorem gX8_changes_X8_isMachine : GoodIn wsX8_changes (wsV RX8 204 RX8 yX8_isMachine wsX8_isMachine) := goodIn_app (goodIn_of _ (by decide +kernel)) ggX8_changes_X8_isMachine
set_option maxRecDepth 20000 in
theorem ggX8_changes_X8_isFine : GoodIn wsX8_changes wsX8_isFine := goodIn_r _ [15, 16, 43, 44, 45, 46, 47, 48, 49, 50, 51, 52, 53, 54, 55, 56, 57, 58, 59, 60, 61, 62, 63, 64, 65, 66, 67, 68, 69, 70, 71, 72, 73, 74, 75, 76, 77, 78, 79, 80, 81, 82, 83, 84, 85, 86, 87, 88, 89] (by decide +kernel) (by decide +kernel)
set_option maxRecDepth 20000 in
theorem gX8_changes_X8_isFine : GoodIn wsX8_changes (wsV RX8 138 RX8 yX8_isFine wsX8_isFine) := goodIn_app (goodIn_of _ (by decide +kernel)) ggX8_changes_X8_isFine
set_option maxRecDepth 20000 in
theorem ggX8_changes_X8_restsOfChanges : GoodIn wsX8_changes wsX8_restsOfChanges := goodIn_r _ [20, 1, 21, 2, 22, 23, 24, 25, 26, 27, 28, 6, 29, 30, 31, 32, 33, 34, 35, 36, 37, 38, 39, 40, 41, 42, 43, 44, 45, 46, 47, 48, 49, 50, 51, 52, 53, 54, 55, 56, 57, 58, 59, 60, 61, 62, 63, 64, 65, 66, 67, 68, 69, 70, 71, 72, 73, 74, 75, 76, 77, 78, 79, 80, 81, 82, 83, 84, 85, 86, 87, 88, 89] (by decide +kernel) (by decide +kernel)
set_option maxRecDepth 20000 in
theorem gX8_changes_X8_restsOfChanges : GoodIn wsX8_changes (wsV RX8 348 RX8 yX8_restsOfChanges wsX8_restsOfChanges) := goodIn_app (goodIn_of _ (by decide +kernel)) ggX8_changes_X8_restsOfChanges
theorem dX8_changes_0 : decode cX8_changes 0 = .ok (.aload_n 0, 1) := by decide +kernel
theorem dX8_changes_1 : decode cX8_changes 1 = .ok (.aload_n 0, 1) := by decide +kernel
theorem dX8_changes_2 : decode cX8_changes 2 = .ok (.iload_n 1, 1) := by decide +kernel
theorem dX8_changes_3 : decode cX8_changes 3 = .ok (.invokevirtual 204, 3) := by decide +kernel
theorem dX8_changes_6 : decode cX8_changes 6 = .ok (.ifCond .eq 7, 3) := by decide +kernel
theorem dX8_changes_9 : decode cX8_changes 9 = .ok (.iconst 0, 1) := by decide +kernel
theorem dX8_changes_10 : decode cX8_changes 10 = .ok (.goto 4, 3) := by decide +kernel
theorem dX8_changes_13 : decode cX8_changes 13 = .ok (.iconst 1, 1) := by decide +kernel
theorem dX8_changes_14 : decode cX8_changes 14 = .ok (.invokevirtual 138, 3) := by decide +kernel
theorem dX8_changes_17 : decode cX8_changes 17 = .ok (.ifCond .ne 5, 3) := by decide +kernel
theorem dX8_changes_20 : decode cX8_changes 20 = .ok (.iconst 0, 1) := by decide +kernel
theorem dX8_changes_21 : decode cX8_changes 21 = .ok (.ireturn, 1) := by decide +kernel
theorem dX8_changes_22 : decode cX8_changes 22 = .ok (.aload_n 0, 1) := by decide +kernel
theorem dX8_changes_23 : decode cX8_changes 23 = .ok (.iload_n 1, 1) := by decide +kernel
theorem dX8_changes_24 : decode cX8_changes 24 = .ok (.invokevirtual 348, 3) := by decide +kernel
theorem dX8_changes_27 : decode cX8_changes 27 = .ok (.aload_n 0, 1) := by decide +kernel
theorem dX8_changes_28 : decode cX8_changes 28 = .ok (.getfield 96, 3) := by decide +kernel
theorem dX8_changes_31 : decode cX8_changes 31 = .ok (.iconst 0, 1) := by decide +kernel
theorem dX8_changes_32 : decode cX8_changes 32 = .ok (.iaload, 1) := by decide +kernel
theorem dX8_changes_33 : decode cX8_changes 33 = .ok (.ldc_w 284, 3) := by decide +kernel
theorem dX8_changes_36 : decode cX8_changes 36 = .ok (.if_icmp .ne 7, 3) := by decide +kernel
theorem dX8_changes_39 : decode cX8_changes 39 = .ok (.iconst (-1), 1) := by decide +kernel
theorem dX8_changes_40 : decode cX8_changes 40 = .ok (.goto 9, 3) := by decide +kernel
theorem dX8_changes_43 : decode cX8_changes 43 = .ok (.aload_n 0, 1) := by decide +kernel
theorem dX8_changes_44 : decode cX8_changes 44 = .ok (.getfield 96, 3) := by decide +kernel
theorem dX8_changes_47 : decode cX8_changes 47 = .ok (.iconst 0, 1) := by decide +kernel
theorem dX8_changes_48 : decode cX8_changes 48 = .ok (.iaload, 1) := by decide +kernel
theorem dX8_changes_49 : decode cX8_changes 49 = .ok (.ireturn, 1) := by decide +kernel
set_option maxRecDepth 20000 in
theorem ggX8_tellsMended_X8_begins_ : GoodIn wsX8_tellsMended wsX8_begins_ := goodIn_r _ [8, 9, 10, 11, 47, 48, 49, 50, 51, 52, 53, 54, 55, 56, 57, 58, 59, 60, 61, 62, 63, 64, 65, 66, 67, 68, 69, 70, 71, 72, 73, 74, 75, 76, 77, 78, 79, 80, 81, 82, 83, 84, 85, 86, 87, 88, 89, 90, 91, 92, 93] (by decide +kernel) (by decide +kernel)
set_option maxRecDepth 20000 in
theorem gX8_tellsMended_X8_begins_ : GoodIn wsX8_tellsMended (wsV RX8 324 RX8 yX8_begins_ wsX8_begins_) := goodIn_app (goodIn_of _ (by decide +kernel)) ggX8_tellsMended_X8_begins_
set_option maxRecDepth 20000 in
theorem ggX8_tellsMended_X8_closesChanges : GoodIn wsX8_tellsMended wsX8_closesChanges := goodIn_r _ [15, 16, 9, 17, 18, 19, 20, 21, 22, 23, 7, 24, 10, 25, 26, 27, 47, 48, 49, 50, 51, 52, 53, 54, 55, 56, 57, 58, 59, 60, 61, 62, 63, 64, 65, 66, 67, 68, 69, 70, 71, 72, 73, 74, 75, 76, 77, 78, 79, 80, 81, 82, 83, 84, 85, 86, 87, 88, 89, 90, 91, 92, 93] (by decide +kernel) (by decide +kernel)
set_option maxRecDepth 20000 in
theorem gX8_tellsMended_X8_closesChanges : GoodIn wsX8_tellsMended (wsV RX8 351 RX8 yX8_closesChanges wsX8_closesChanges) := goodIn_app (goodIn_of _ (by decide +kernel)) ggX8_tellsMended_X8_closesChanges
set_option maxRecDepth 20000 in
theorem ggX8_tellsMended_X8_isDoneFor : GoodIn wsX8_tellsMended wsX8_isDoneFor := goodIn_r _ [31, 32, 9, 16, 33, 34, 35, 7, 36, 37, 47, 48, 49, 50, 51, 52, 53, 54, 55, 56, 57, 58, 59, 60, 61, 62, 63, 64, 65, 66, 67, 68, 69, 70, 71, 72, 73, 74, 75, 76, 77, 78, 79, 80, 81, 82, 83, 84, 85, 86, 87, 88, 89, 90, 91, 92, 93] (by decide +kernel) (by decide +kernel)
set_option maxRecDepth 20000 in
theorem gX8_tellsMended_X8_isDoneFor : GoodIn wsX8_tellsMended (wsV RX8 330 RX8 yX8_isDoneFor wsX8_isDoneFor) := goodIn_app (goodIn_of _ (by decide +kernel)) ggX8_tellsMended_X8_isDoneFor
set_option maxRecDepth 20000 in
theorem ggX8_tellsMended_X8_goesChanged : GoodIn wsX8_tellsMended wsX8_goesChanged := goodIn_r _ [41, 11, 10, 17, 16, 18, 9, 19, 20, 1, 21, 22, 23, 7, 24, 25, 26, 27, 42, 43, 44, 45, 46, 47, 48, 49, 50, 51, 52, 53, 54, 55, 56, 57, 58, 59, 60, 61, 62, 63, 64, 65, 66, 67, 68, 69, 70, 71, 72, 73, 74, 75, 76, 77, 78, 79, 80, 81, 82, 83, 84, 85, 86, 87, 88, 89, 90, 91, 92, 93] (by decide +kernel) (by decide +kernel)
set_option maxRecDepth 20000 in
theorem gX8_tellsMended_X8_goesChanged : GoodIn wsX8_tellsMended (wsV RX8 354 RX8 yX8_goesChanged wsX8_goesChanged) := goodIn_app (goodIn_of _ (by decide +kernel)) ggX8_tellsMended_X8_goesChanged
theorem dX8_tellsMended_0 : decode cX8_tellsMended 0 = .ok (.aload_n 0, 1) := by decide +kernel
theorem dX8_tellsMended_1 : decode cX8_tellsMended 1 = .ok (.getfield 96, 3) := by decide +kernel
theorem dX8_tellsMended_4 : decode cX8_tellsMended 4 = .ok (.iconst 0, 1) := by decide +kernel
theorem dX8_tellsMended_5 : decode cX8_tellsMended 5 = .ok (.iaload, 1) := by decide +kernel
theorem dX8_tellsMended_6 : decode cX8_tellsMended 6 = .ok (.istore_n 2, 1) := by decide +kernel
theorem dX8_tellsMended_7 : decode cX8_tellsMended 7 = .ok (.aload_n 0, 1) := by decide +kernel
theorem dX8_tellsMended_8 : decode cX8_tellsMended 8 = .ok (.iconst 1, 1) := by decide +kernel
theorem dX8_tellsMended_9 : decode cX8_tellsMended 9 = .ok (.invokevirtual 324, 3) := by decide +kernel
theorem dX8_tellsMended_12 : decode cX8_tellsMended 12 = .ok (.aload_n 0, 1) := by decide +kernel
theorem dX8_tellsMended_13 : decode cX8_tellsMended 13 = .ok (.iload_n 1, 1) := by decide +kernel
theorem dX8_tellsMended_14 : decode cX8_tellsMended 14 = .ok (.invokevirtual 351, 3) := by decide +kernel
theorem dX8_tellsMended_17 : decode cX8_tellsMended 17 = .ok (.aload_n 0, 1) := by decide +kernel
theorem dX8_tellsMended_18 : decode cX8_tellsMended 18 = .ok (.iconst 0, 1) := by decide +kernel
theorem dX8_tellsMended_19 : decode cX8_tellsMended 19 = .ok (.putfield 314, 3) := by decide +kernel
theorem dX8_tellsMended_22 : decode cX8_tellsMended 22 = .ok (.aload_n 0, 1) := by decide +kernel
theorem dX8_tellsMended_23 : decode cX8_tellsMended 23 = .ok (.iload_n 1, 1) := by decide +kernel
theorem dX8_tellsMended_24 : decode cX8_tellsMended 24 = .ok (.iload_n 2, 1) := by decide +kernel
theorem dX8_tellsMended_25 : decode cX8_tellsMended 25 = .ok (.invokevirtual 330, 3) := by decide +kernel
theorem dX8_tellsMended_28 : decode cX8_tellsMended 28 = .ok (.ifCond .ne 54, 3) := by decide +kernel
theorem dX8_tellsMended_31 : decode cX8_tellsMended 31 = .ok (.iconst 0, 1) := by decide +kernel
theorem dX8_tellsMended_32 : decode cX8_tellsMended 32 = .ok (.istore_n 3, 1) := by decide +kernel
theorem dX8_tellsMended_33 : decode cX8_tellsMended 33 = .ok (.aload_n 0, 1) := by decide +kernel
theorem dX8_tellsMended_34 : decode cX8_tellsMended 34 = .ok (.iload_n 1, 1) := by decide +kernel
theorem dX8_tellsMended_35 : decode cX8_tellsMended 35 = .ok (.iload_n 3, 1) := by decide +kernel
theorem dX8_tellsMended_36 : decode cX8_tellsMended 36 = .ok (.invokevirtual 354, 3) := by decide +kernel
theorem dX8_tellsMended_39 : decode cX8_tellsMended 39 = .ok (.iload_n 2, 1) := by decide +kernel
theorem dX8_tellsMended_40 : decode cX8_tellsMended 40 = .ok (.if_icmp .eq 9, 3) := by decide +kernel
theorem dX8_tellsMended_43 : decode cX8_tellsMended 43 = .ok (.iinc 3 1, 3) := by decide +kernel
theorem dX8_tellsMended_46 : decode cX8_tellsMended 46 = .ok (.goto (-13), 3) := by decide +kernel
theorem dX8_tellsMended_49 : decode cX8_tellsMended 49 = .ok (.aload_n 0, 1) := by decide +kernel
theorem dX8_tellsMended_50 : decode cX8_tellsMended 50 = .ok (.iconst 0, 1) := by decide +kernel
theorem dX8_tellsMended_51 : decode cX8_tellsMended 51 = .ok (.invokevirtual 324, 3) := by decide +kernel
theorem dX8_tellsMended_54 : decode cX8_tellsMended 54 = .ok (.aload_n 0, 1) := by decide +kernel
theorem dX8_tellsMended_55 : decode cX8_tellsMended 55 = .ok (.iload_n 1, 1) := by decide +kernel
theorem dX8_tellsMended_56 : decode cX8_tellsMended 56 = .ok (.invokevirtual 351, 3) := by decide +kernel
theorem dX8_tellsMended_59 : decode cX8_tellsMended 59 = .ok (.aload_n 0, 1) := by decide +kernel
theorem dX8_tellsMended_60 : decode cX8_tellsMended 60 = .ok (.getfield 112, 3) := by decide +kernel
theorem dX8_tellsMended_63 : decode cX8_tellsMended 63 = .ok (.aload_n 0, 1) := by decide +kernel
theorem dX8_tellsMended_64 : decode cX8_tellsMended 64 = .ok (.getfield 314, 3) := by decide +kernel
theorem dX8_tellsMended_67 : decode cX8_tellsMended 67 = .ok (.iload_n 3, 1) := by decide +kernel
theorem dX8_tellsMended_68 : decode cX8_tellsMended 68 = .ok (.iastore, 1) := by decide +kernel
theorem dX8_tellsMended_69 : decode cX8_tellsMended 69 = .ok (.aload_n 0, 1) := by decide +kernel
theorem dX8_tellsMended_70 : decode cX8_tellsMended 70 = .ok (.dup, 1) := by decide +kernel
theorem dX8_tellsMended_71 : decode cX8_tellsMended 71 = .ok (.getfield 314, 3) := by decide +kernel
theorem dX8_tellsMended_74 : decode cX8_tellsMended 74 = .ok (.iconst 1, 1) := by decide +kernel
theorem dX8_tellsMended_75 : decode cX8_tellsMended 75 = .ok (.iadd, 1) := by decide +kernel
theorem dX8_tellsMended_76 : decode cX8_tellsMended 76 = .ok (.putfield 314, 3) := by decide +kernel
theorem dX8_tellsMended_79 : decode cX8_tellsMended 79 = .ok (.goto (-57), 3) := by decide +kernel
theorem dX8_tellsMended_82 : decode cX8_tellsMended 82 = .ok (.return_, 1) := by decide +kernel
set_option maxRecDepth 20000 in
theorem ggX8_mended_X8_isMachine : GoodIn wsX8_mended wsX8_isMachine := goodIn_r _ [7, 8, 9, 10, 6, 11, 72, 73, 74, 75, 76, 77, 78, 79, 80, 81, 82, 83, 84, 85, 86, 87, 88, 89, 90, 91, 92, 93, 94, 95, 96, 97, 98, 99, 100, 101, 102, 103, 104, 105, 106, 107, 108, 109, 110, 111, 112, 113, 114, 115, 116, 117, 118] (by decide +kernel) (by decide +kernel)
set_option maxRecDepth 20000 in
theorem gX8_mended_X8_isMachine : GoodIn wsX8_mended (wsV RX8 204 RX8 yX8_isMachine wsX8_isMachine) := goodIn_app (goodIn_of _ (by decide +kernel)) ggX8_mended_X8_isMachine
set_option maxRecDepth 20000 in
theorem ggX8_mended_X8_isFine : GoodIn wsX8_mended wsX8_isFine := goodIn_r _ [15, 16, 72, 73, 74, 75, 76, 77, 78, 79, 80, 81, 82, 83, 84, 85, 86, 87, 88, 89, 90, 91, 92, 93, 94, 95, 96, 97, 98, 99, 100, 101, 102, 103, 104, 105, 106, 107, 108, 109, 110, 111, 112, 113, 114, 115, 116, 117, 118] (by decide +kernel) (by decide +kernel)
set_option maxRecDepth 20000 in
theorem gX8_mended_X8_isFine : GoodIn wsX8_mended (wsV RX8 138 RX8 yX8_isFine wsX8_isFine) := goodIn_app (goodIn_of _ (by decide +kernel)) ggX8_mended_X8_isFine
set_option maxRecDepth 20000 in
theorem ggX8_mended_X8_restsOfChanges : GoodIn wsX8_mended wsX8_restsOfChanges := goodIn_r _ [20, 1, 21, 2, 22, 23, 24, 25, 26, 27, 28, 6, 29, 30, 31, 32, 33, 34, 35, 36, 37, 38, 39, 40, 41, 42, 72, 73, 74, 75, 76, 77, 78, 79, 80, 81, 82, 83, 84, 85, 86, 87, 88, 89, 90, 91, 92, 93, 94, 95, 96, 97, 98, 99, 100, 101, 102, 103, 104, 105, 106, 107, 108, 109, 110, 111, 112, 113, 114, 115, 116, 117, 118] (by decide +kernel) (by decide +kernel)
set_option maxRecDepth 20000 in
theorem gX8_mended_X8_restsOfChanges : GoodIn wsX8_mended (wsV RX8 348 RX8 yX8_restsOfChanges wsX8_restsOfChanges) := goodIn_app (goodIn_of _ (by decide +kernel)) ggX8_mended_X8_restsOfChanges
set_option maxRecDepth 20000 in
theorem ggX8_mended_X8_tellsMended : GoodIn wsX8_mended wsX8_tellsMended := goodIn_r _ [46, 1, 47, 48, 49, 50, 51, 6, 52, 53, 2, 54, 55, 56, 57, 58, 21, 22, 23, 25, 24, 31, 32, 33, 34, 35, 36, 37, 59, 60, 61, 62, 63, 26, 27, 28, 29, 30, 64, 65, 66, 67, 38, 39, 40, 41, 42, 72, 73, 74, 75, 76, 77, 78, 79, 80, 81, 82, 83, 84, 85, 86, 87, 88, 89, 90, 91, 92, 93, 94, 95, 96, 97, 98, 99, 100, 101, 102, 103, 104, 105, 106, 107, 108, 109, 110, 111, 112, 113, 114, 115, 116, 117, 118] (by decide +kernel) (by decide +kernel)
set_option maxRecDepth 20000 in
theorem gX8_mended_X8_tellsMended : GoodIn wsX8_mended (wsV RX8 357 RX8 yX8_tellsMended wsX8_tellsMended) := goodIn_app (goodIn_of _ (by decide +kernel)) ggX8_mended_X8_tellsMended
set_option maxRecDepth 20000 in
theorem ggX8_mended_X8_letterAt : GoodIn wsX8_mended wsX8_letterAt := goodIn_r _ [71, 47, 48, 72, 73, 74, 75, 76, 77, 78, 79, 80, 81, 82, 83, 84, 85, 86, 87, 88, 89, 90, 91, 92, 93, 94, 95, 96, 97, 98, 99, 100, 101, 102, 103, 104, 105, 106, 107, 108, 109, 110, 111, 112, 113, 114, 115, 116, 117, 118] (by decide +kernel) (by decide +kernel)
set_option maxRecDepth 20000 in
theorem gX8_mended_X8_letterAt : GoodIn wsX8_mended (wsV RX8 321 RX8 yX8_letterAt wsX8_letterAt) := goodIn_app (goodIn_of _ (by decide +kernel)) ggX8_mended_X8_letterAt
theorem dX8_mended_0 : decode cX8_mended 0 = .ok (.aload_n 0, 1) := by decide +kernel
theorem dX8_mended_1 : decode cX8_mended 1 = .ok (.aload_n 0, 1) := by decide +kernel
theorem dX8_mended_2 : decode cX8_mended 2 = .ok (.iload_n 1, 1) := by decide +kernel
theorem dX8_mended_3 : decode cX8_mended 3 = .ok (.invokevirtual 204, 3) := by decide +kernel
theorem dX8_mended_6 : decode cX8_mended 6 = .ok (.ifCond .eq 11, 3) := by decide +kernel
theorem dX8_mended_9 : decode cX8_mended 9 = .ok (.iload_n 2, 1) := by decide +kernel
theorem dX8_mended_10 : decode cX8_mended 10 = .ok (.ifCond .lt 7, 3) := by decide +kernel
theorem dX8_mended_13 : decode cX8_mended 13 = .ok (.iconst 0, 1) := by decide +kernel
theorem dX8_mended_14 : decode cX8_mended 14 = .ok (.goto 4, 3) := by decide +kernel
theorem dX8_mended_17 : decode cX8_mended 17 = .ok (.iconst 1, 1) := by decide +kernel
theorem dX8_mended_18 : decode cX8_mended 18 = .ok (.invokevirtual 138, 3) := by decide +kernel
theorem dX8_mended_21 : decode cX8_mended 21 = .ok (.ifCond .ne 5, 3) := by decide +kernel
theorem dX8_mended_24 : decode cX8_mended 24 = .ok (.iconst 0, 1) := by decide +kernel
theorem dX8_mended_25 : decode cX8_mended 25 = .ok (.ireturn, 1) := by decide +kernel
theorem dX8_mended_26 : decode cX8_mended 26 = .ok (.aload_n 0, 1) := by decide +kernel
theorem dX8_mended_27 : decode cX8_mended 27 = .ok (.iload_n 1, 1) := by decide +kernel
theorem dX8_mended_28 : decode cX8_mended 28 = .ok (.invokevirtual 348, 3) := by decide +kernel
theorem dX8_mended_31 : decode cX8_mended 31 = .ok (.aload_n 0, 1) := by decide +kernel
theorem dX8_mended_32 : decode cX8_mended 32 = .ok (.getfield 96, 3) := by decide +kernel
theorem dX8_mended_35 : decode cX8_mended 35 = .ok (.iconst 0, 1) := by decide +kernel
theorem dX8_mended_36 : decode cX8_mended 36 = .ok (.iaload, 1) := by decide +kernel
theorem dX8_mended_37 : decode cX8_mended 37 = .ok (.ldc_w 284, 3) := by decide +kernel
theorem dX8_mended_40 : decode cX8_mended 40 = .ok (.if_icmp .ne 5, 3) := by decide +kernel
theorem dX8_mended_43 : decode cX8_mended 43 = .ok (.iconst (-1), 1) := by decide +kernel
theorem dX8_mended_44 : decode cX8_mended 44 = .ok (.ireturn, 1) := by decide +kernel
theorem dX8_mended_45 : decode cX8_mended 45 = .ok (.aload_n 0, 1) := by decide +kernel
theorem dX8_mended_46 : decode cX8_mended 46 = .ok (.iload_n 1, 1) := by decide +kernel
theorem dX8_mended_47 : decode cX8_mended 47 = .ok (.invokevirtual 357, 3) := by decide +kernel
theorem dX8_mended_50 : decode cX8_mended 50 = .ok (.aload_n 0, 1) := by decide +kernel
theorem dX8_mended_51 : decode cX8_mended 51 = .ok (.iload_n 2, 1) := by decide +kernel
theorem dX8_mended_52 : decode cX8_mended 52 = .ok (.invokevirtual 321, 3) := by decide +kernel
theorem dX8_mended_55 : decode cX8_mended 55 = .ok (.ireturn, 1) := by decide +kernel
set_option maxRecDepth 20000 in
theorem ggX8_apart_X8_isMachine : GoodIn wsX8_apart wsX8_isMachine := goodIn_r _ [8, 9, 10, 11, 7, 12, 55, 56, 57, 58, 59, 60, 61, 62, 63, 64, 65, 66, 67, 68, 69, 70, 71, 72, 73, 74, 75, 76, 77, 78, 79, 80, 81, 82, 83, 84, 85, 86, 87, 88, 89, 90, 91, 92, 93, 94, 95, 96, 97, 98, 99, 100, 101] (by decide +kernel) (by decide +kernel)
set_option maxRecDepth 20000 in
theorem gX8_apart_X8_isMachine : GoodIn wsX8_apart (wsV RX8 204 RX8 yX8_isMachine wsX8_isMachine) := goodIn_app (goodIn_of _ (by decide +kernel)) ggX8_apart_X8_isMachine
set_option maxRecDepth 20000 in
theorem ggX8_apart_X8_isPlainOf : GoodIn wsX8_apart wsX8_isPlainOf := goodIn_r _ [16, 17, 18, 19, 20, 55, 56, 57, 58, 59, 60, 61, 62, 63, 64, 65, 66, 67, 68, 69, 70, 71, 72, 73, 74, 75, 76, 77, 78, 79, 80, 81, 82, 83, 84, 85, 86, 87, 88, 89, 90, 91, 92, 93, 94, 95, 96, 97, 98, 99, 100, 101] (by decide +kernel) (by decide +kernel)
set_option maxRecDepth 20000 in
theorem gX8_apart_X8_isPlainOf : GoodIn wsX8_apart (wsV RX8 263 RX8 yX8_isPlainOf wsX8_isPlainOf) := goodIn_app (goodIn_of _ (by decide +kernel)) ggX8_apart_X8_isPlainOf
set_option maxRecDepth 20000 in
theorem ggX8_apart_X8_looks : GoodIn wsX8_apart wsX8_looks := goodIn_r _ [24, 1, 25, 26, 27, 28, 29, 30, 7, 31, 17, 18, 32, 33, 34, 35, 36, 37, 2, 3, 38, 39, 40, 41, 42, 43, 44, 55, 56, 57, 58, 59, 60, 61, 62, 63, 64, 65, 66, 67, 68, 69, 70, 71, 72, 73, 74, 75, 76, 77, 78, 79, 80, 81, 82, 83, 84, 85, 86, 87, 88, 89, 90, 91, 92, 93, 94, 95, 96, 97, 98, 99, 100, 101] (by decide +kernel) (by decide +kernel)
set_option maxRecDepth 20000 in
theorem gX8_apart_X8_looks : GoodIn wsX8_apart (wsV RX8 250 RX8 yX8_looks wsX8_looks) := goodIn_app (goodIn_of _ (by decide +kernel)) ggX8_apart_X8_looks
set_option maxRecDepth 20000 in
theorem ggX8_apart_X8_isFine : GoodIn wsX8_apart wsX8_isFine := goodIn_r _ [48, 49, 55, 56, 57, 58, 59, 60, 61, 62, 63, 64, 65, 66, 67, 68, 69, 70, 71, 72, 73, 74, 75, 76, 77, 78, 79, 80, 81, 82, 83, 84, 85, 86, 87, 88, 89, 90, 91, 92, 93, 94, 95, 96, 97, 98, 99, 100, 101] (by decide +kernel) (by decide +kernel)
set_option maxRecDepth 20000 in
theorem gX8_apart_X8_isFine : GoodIn wsX8_apart (wsV RX8 138 RX8 yX8_isFine wsX8_isFine) := goodIn_app (goodIn_of _ (by decide +kernel)) ggX8_apart_X8_isFine
set_option maxRecDepth 20000 in
theorem ggX8_apart_X8_isAccepted : GoodIn wsX8_apart wsX8_isAccepted := goodIn_r _ [53, 25, 54, 26, 55, 56, 57, 58, 59, 60, 61, 62, 63, 64, 65, 66, 67, 68, 69, 70, 71, 72, 73, 74, 75, 76, 77, 78, 79, 80, 81, 82, 83, 84, 85, 86, 87, 88, 89, 90, 91, 92, 93, 94, 95, 96, 97, 98, 99, 100, 101] (by decide +kernel) (by decide +kernel)
set_option maxRecDepth 20000 in
theorem gX8_apart_X8_isAccepted : GoodIn wsX8_apart (wsV RX8 253 RX8 yX8_isAccepted wsX8_isAccepted) := goodIn_app (goodIn_of _ (by decide +kernel)) ggX8_apart_X8_isAccepted
theorem dX8_apart_0 : decode cX8_apart 0 = .ok (.aload_n 0, 1) := by decide +kernel
theorem dX8_apart_1 : decode cX8_apart 1 = .ok (.iload_n 1, 1) := by decide +kernel
theorem dX8_apart_2 : decode cX8_apart 2 = .ok (.invokevirtual 204, 3) := by decide +kernel
theorem dX8_apart_5 : decode cX8_apart 5 = .ok (.ifCond .eq 19, 3) := by decide +kernel
theorem dX8_apart_8 : decode cX8_apart 8 = .ok (.aload_n 0, 1) := by decide +kernel
theorem dX8_apart_9 : decode cX8_apart 9 = .ok (.iload_n 2, 1) := by decide +kernel
theorem dX8_apart_10 : decode cX8_apart 10 = .ok (.invokevirtual 204, 3) := by decide +kernel
theorem dX8_apart_13 : decode cX8_apart 13 = .ok (.ifCond .eq 11, 3) := by decide +kernel
theorem dX8_apart_16 : decode cX8_apart 16 = .ok (.iload_n 3, 1) := by decide +kernel
theorem dX8_apart_17 : decode cX8_apart 17 = .ok (.ifCond .lt 7, 3) := by decide +kernel
theorem dX8_apart_20 : decode cX8_apart 20 = .ok (.iconst 1, 1) := by decide +kernel
theorem dX8_apart_21 : decode cX8_apart 21 = .ok (.goto 4, 3) := by decide +kernel
theorem dX8_apart_24 : decode cX8_apart 24 = .ok (.iconst 0, 1) := by decide +kernel
theorem dX8_apart_25 : decode cX8_apart 25 = .ok (.istore 4, 2) := by decide +kernel
theorem dX8_apart_27 : decode cX8_apart 27 = .ok (.iload 4, 2) := by decide +kernel
theorem dX8_apart_29 : decode cX8_apart 29 = .ok (.ifCond .eq 23, 3) := by decide +kernel
theorem dX8_apart_32 : decode cX8_apart 32 = .ok (.aload_n 0, 1) := by decide +kernel
theorem dX8_apart_33 : decode cX8_apart 33 = .ok (.iload_n 1, 1) := by decide +kernel
theorem dX8_apart_34 : decode cX8_apart 34 = .ok (.invokevirtual 263, 3) := by decide +kernel
theorem dX8_apart_37 : decode cX8_apart 37 = .ok (.ifCond .eq 15, 3) := by decide +kernel
theorem dX8_apart_40 : decode cX8_apart 40 = .ok (.aload_n 0, 1) := by decide +kernel
theorem dX8_apart_41 : decode cX8_apart 41 = .ok (.iload_n 2, 1) := by decide +kernel
theorem dX8_apart_42 : decode cX8_apart 42 = .ok (.invokevirtual 263, 3) := by decide +kernel
theorem dX8_apart_45 : decode cX8_apart 45 = .ok (.ifCond .eq 7, 3) := by decide +kernel
theorem dX8_apart_48 : decode cX8_apart 48 = .ok (.iconst 1, 1) := by decide +kernel
theorem dX8_apart_49 : decode cX8_apart 49 = .ok (.goto 4, 3) := by decide +kernel
theorem dX8_apart_52 : decode cX8_apart 52 = .ok (.iconst 0, 1) := by decide +kernel
theorem dX8_apart_53 : decode cX8_apart 53 = .ok (.istore 5, 2) := by decide +kernel
theorem dX8_apart_55 : decode cX8_apart 55 = .ok (.aload_n 0, 1) := by decide +kernel
theorem dX8_apart_56 : decode cX8_apart 56 = .ok (.iload 4, 2) := by decide +kernel
theorem dX8_apart_58 : decode cX8_apart 58 = .ok (.ifCond .ne 7, 3) := by decide +kernel
theorem dX8_apart_61 : decode cX8_apart 61 = .ok (.iconst 1, 1) := by decide +kernel
theorem dX8_apart_62 : decode cX8_apart 62 = .ok (.goto 23, 3) := by decide +kernel
theorem dX8_apart_65 : decode cX8_apart 65 = .ok (.iload 5, 2) := by decide +kernel
theorem dX8_apart_67 : decode cX8_apart 67 = .ok (.ifCond .eq 13, 3) := by decide +kernel
theorem dX8_apart_70 : decode cX8_apart 70 = .ok (.aload_n 0, 1) := by decide +kernel
theorem dX8_apart_71 : decode cX8_apart 71 = .ok (.iload_n 1, 1) := by decide +kernel
theorem dX8_apart_72 : decode cX8_apart 72 = .ok (.iload_n 2, 1) := by decide +kernel
theorem dX8_apart_73 : decode cX8_apart 73 = .ok (.iconst 3, 1) := by decide +kernel
theorem dX8_apart_74 : decode cX8_apart 74 = .ok (.invokevirtual 250, 3) := by decide +kernel
theorem dX8_apart_77 : decode cX8_apart 77 = .ok (.ifCond .ne 7, 3) := by decide +kernel
theorem dX8_apart_80 : decode cX8_apart 80 = .ok (.iconst 2, 1) := by decide +kernel
theorem dX8_apart_81 : decode cX8_apart 81 = .ok (.goto 4, 3) := by decide +kernel
theorem dX8_apart_84 : decode cX8_apart 84 = .ok (.iconst 0, 1) := by decide +kernel
theorem dX8_apart_85 : decode cX8_apart 85 = .ok (.invokevirtual 138, 3) := by decide +kernel
theorem dX8_apart_88 : decode cX8_apart 88 = .ok (.ifCond .ne 5, 3) := by decide +kernel
theorem dX8_apart_91 : decode cX8_apart 91 = .ok (.iconst 0, 1) := by decide +kernel
theorem dX8_apart_92 : decode cX8_apart 92 = .ok (.ireturn, 1) := by decide +kernel
theorem dX8_apart_93 : decode cX8_apart 93 = .ok (.iconst 0, 1) := by decide +kernel
theorem dX8_apart_94 : decode cX8_apart 94 = .ok (.istore 6, 2) := by decide +kernel
theorem dX8_apart_96 : decode cX8_apart 96 = .ok (.iload 6, 2) := by decide +kernel
theorem dX8_apart_98 : decode cX8_apart 98 = .ok (.aload_n 0, 1) := by decide +kernel
theorem dX8_apart_99 : decode cX8_apart 99 = .ok (.getfield 233, 3) := by decide +kernel
theorem dX8_apart_102 : decode cX8_apart 102 = .ok (.if_icmp .ge 21, 3) := by decide +kernel
theorem dX8_apart_105 : decode cX8_apart 105 = .ok (.aload_n 0, 1) := by decide +kernel
theorem dX8_apart_106 : decode cX8_apart 106 = .ok (.iload 6, 2) := by decide +kernel
theorem dX8_apart_108 : decode cX8_apart 108 = .ok (.iload_n 1, 1) := by decide +kernel
theorem dX8_apart_109 : decode cX8_apart 109 = .ok (.iload_n 2, 1) := by decide +kernel
theorem dX8_apart_110 : decode cX8_apart 110 = .ok (.iconst 3, 1) := by decide +kernel
theorem dX8_apart_111 : decode cX8_apart 111 = .ok (.invokevirtual 253, 3) := by decide +kernel
theorem dX8_apart_114 : decode cX8_apart 114 = .ok (.ifCond .ne 9, 3) := by decide +kernel
theorem dX8_apart_117 : decode cX8_apart 117 = .ok (.iinc 6 1, 3) := by decide +kernel
theorem dX8_apart_120 : decode cX8_apart 120 = .ok (.goto (-24), 3) := by decide +kernel
theorem dX8_apart_123 : decode cX8_apart 123 = .ok (.iload 6, 2) := by decide +kernel
theorem dX8_apart_125 : decode cX8_apart 125 = .ok (.aload_n 0, 1) := by decide +kernel
theorem dX8_apart_126 : decode cX8_apart 126 = .ok (.getfield 233, 3) := by decide +kernel
theorem dX8_apart_129 : decode cX8_apart 129 = .ok (.if_icmp .ne 5, 3) := by decide +kernel
theorem dX8_apart_132 : decode cX8_apart 132 = .ok (.iconst (-1), 1) := by decide +kernel
theorem dX8_apart_133 : decode cX8_apart 133 = .ok (.ireturn, 1) := by decide +kernel
theorem dX8_apart_134 : decode cX8_apart 134 = .ok (.iconst 0, 1) := by decide +kernel
theorem dX8_apart_135 : decode cX8_apart 135 = .ok (.istore 7, 2) := by decide +kernel
theorem dX8_apart_137 : decode cX8_apart 137 = .ok (.iload 6, 2) := by decide +kernel
theorem dX8_apart_139 : decode cX8_apart 139 = .ok (.istore 8, 2) := by decide +kernel
theorem dX8_apart_141 : decode cX8_apart 141 = .ok (.aload_n 0, 1) := by decide +kernel
theorem dX8_apart_142 : decode cX8_apart 142 = .ok (.getfield 84, 3) := by decide +kernel
theorem dX8_apart_145 : decode cX8_apart 145 = .ok (.iload 8, 2) := by decide +kernel
theorem dX8_apart_147 : decode cX8_apart 147 = .ok (.iaload, 1) := by decide +kernel
theorem dX8_apart_148 : decode cX8_apart 148 = .ok (.iconst (-1), 1) := by decide +kernel
theorem dX8_apart_149 : decode cX8_apart 149 = .ok (.if_icmp .eq 18, 3) := by decide +kernel
theorem dX8_apart_152 : decode cX8_apart 152 = .ok (.iinc 7 1, 3) := by decide +kernel
theorem dX8_apart_155 : decode cX8_apart 155 = .ok (.aload_n 0, 1) := by decide +kernel
theorem dX8_apart_156 : decode cX8_apart 156 = .ok (.getfield 84, 3) := by decide +kernel
theorem dX8_apart_159 : decode cX8_apart 159 = .ok (.iload 8, 2) := by decide +kernel
theorem dX8_apart_161 : decode cX8_apart 161 = .ok (.iaload, 1) := by decide +kernel
theorem dX8_apart_162 : decode cX8_apart 162 = .ok (.istore 8, 2) := by decide +kernel
theorem dX8_apart_164 : decode cX8_apart 164 = .ok (.goto (-23), 3) := by decide +kernel
theorem dX8_apart_167 : decode cX8_apart 167 = .ok (.iload_n 3, 1) := by decide +kernel
theorem dX8_apart_168 : decode cX8_apart 168 = .ok (.iload 7, 2) := by decide +kernel
theorem dX8_apart_170 : decode cX8_apart 170 = .ok (.if_icmp .lt 6, 3) := by decide +kernel
theorem dX8_apart_173 : decode cX8_apart 173 = .ok (.bipush 8, 2) := by decide +kernel
theorem dX8_apart_175 : decode cX8_apart 175 = .ok (.ireturn, 1) := by decide +kernel
theorem dX8_apart_176 : decode cX8_apart 176 = .ok (.iload 7, 2) := by decide +kernel
theorem dX8_apart_178 : decode cX8_apart 178 = .ok (.iconst 1, 1) := by decide +kernel
theorem dX8_apart_179 : decode cX8_apart 179 = .ok (.isub, 1) := by decide +kernel
theorem dX8_apart_180 : decode cX8_apart 180 = .ok (.istore 8, 2) := by decide +kernel
theorem dX8_apart_182 : decode cX8_apart 182 = .ok (.iload 8, 2) := by decide +kernel
theorem dX8_apart_184 : decode cX8_apart 184 = .ok (.iload_n 3, 1) := by decide +kernel
theorem dX8_apart_185 : decode cX8_apart 185 = .ok (.if_icmp .le 18, 3) := by decide +kernel
theorem dX8_apart_188 : decode cX8_apart 188 = .ok (.aload_n 0, 1) := by decide +kernel
theorem dX8_apart_189 : decode cX8_apart 189 = .ok (.getfield 84, 3) := by decide +kernel
theorem dX8_apart_192 : decode cX8_apart 192 = .ok (.iload 6, 2) := by decide +kernel
theorem dX8_apart_194 : decode cX8_apart 194 = .ok (.iaload, 1) := by decide +kernel
theorem dX8_apart_195 : decode cX8_apart 195 = .ok (.istore 6, 2) := by decide +kernel
theorem dX8_apart_197 : decode cX8_apart 197 = .ok (.iinc 8 (-1), 3) := by decide +kernel
theorem dX8_apart_200 : decode cX8_apart 200 = .ok (.goto (-18), 3) := by decide +kernel
theorem dX8_apart_203 : decode cX8_apart 203 = .ok (.aload_n 0, 1) := by decide +kernel
theorem dX8_apart_204 : decode cX8_apart 204 = .ok (.getfield 87, 3) := by decide +kernel
theorem dX8_apart_207 : decode cX8_apart 207 = .ok (.iload 6, 2) := by decide +kernel
theorem dX8_apart_209 : decode cX8_apart 209 = .ok (.iaload, 1) := by decide +kernel
theorem dX8_apart_210 : decode cX8_apart 210 = .ok (.ireturn, 1) := by decide +kernel
set_option maxRecDepth 20000 in
theorem ggX8_ruled_X8_isRule : GoodIn wsX8_ruled wsX8_isRule := goodIn_r _ [6, 7, 8, 5, 9] (by decide +kernel) (by decide +kernel)
set_option maxRecDepth 20000 in
theorem gX8_ruled_X8_isRule : GoodIn wsX8_ruled (va_wsS RX8 273 yX8_isRule wsX8_isRule) := goodIn_app (goodIn_of _ (by decide +kernel)) ggX8_ruled_X8_isRule
set_option maxRecDepth 20000 in
theorem ggX8_ruled_X8_isFine : GoodIn wsX8_ruled wsX8_isFine := goodIn_r _ [13, 14, 15, 16, 17, 18, 19, 20, 21, 22, 23, 24, 25, 26, 27, 28, 29, 30, 31, 32, 33, 34, 35, 36, 37, 38, 39, 40, 41, 42, 43, 44, 45, 46, 47, 48, 49, 50, 51, 52, 53, 54, 55, 56, 57, 58, 59, 60, 61] (by decide +kernel) (by decide +kernel)
set_option maxRecDepth 20000 in
theorem gX8_ruled_X8_isFine : GoodIn wsX8_ruled (wsV RX8 138 RX8 yX8_isFine wsX8_isFine) := goodIn_app (goodIn_of _ (by decide +kernel)) ggX8_ruled_X8_isFine
theorem dX8_ruled_0 : decode cX8_ruled 0 = .ok (.aload_n 0, 1) := by decide +kernel
theorem dX8_ruled_1 : decode cX8_ruled 1 = .ok (.iload 5, 2) := by decide +kernel
theorem dX8_ruled_3 : decode cX8_ruled 3 = .ok (.ifCond .ge 7, 3) := by decide +kernel
theorem dX8_ruled_6 : decode cX8_ruled 6 = .ok (.iconst 1, 1) := by decide +kernel
theorem dX8_ruled_7 : decode cX8_ruled 7 = .ok (.goto 19, 3) := by decide +kernel
theorem dX8_ruled_10 : decode cX8_ruled 10 = .ok (.iload_n 1, 1) := by decide +kernel
theorem dX8_ruled_11 : decode cX8_ruled 11 = .ok (.iload_n 2, 1) := by decide +kernel
theorem dX8_ruled_12 : decode cX8_ruled 12 = .ok (.iload_n 3, 1) := by decide +kernel
theorem dX8_ruled_13 : decode cX8_ruled 13 = .ok (.iload 4, 2) := by decide +kernel
theorem dX8_ruled_15 : decode cX8_ruled 15 = .ok (.invokestatic 273, 3) := by decide +kernel
theorem dX8_ruled_18 : decode cX8_ruled 18 = .ok (.ifCond .ne 7, 3) := by decide +kernel
theorem dX8_ruled_21 : decode cX8_ruled 21 = .ok (.iconst 2, 1) := by decide +kernel
theorem dX8_ruled_22 : decode cX8_ruled 22 = .ok (.goto 4, 3) := by decide +kernel
theorem dX8_ruled_25 : decode cX8_ruled 25 = .ok (.iconst 0, 1) := by decide +kernel
theorem dX8_ruled_26 : decode cX8_ruled 26 = .ok (.invokevirtual 138, 3) := by decide +kernel
theorem dX8_ruled_29 : decode cX8_ruled 29 = .ok (.ifCond .ne 5, 3) := by decide +kernel
theorem dX8_ruled_32 : decode cX8_ruled 32 = .ok (.iconst 0, 1) := by decide +kernel
theorem dX8_ruled_33 : decode cX8_ruled 33 = .ok (.ireturn, 1) := by decide +kernel
theorem dX8_ruled_34 : decode cX8_ruled 34 = .ok (.iconst 0, 1) := by decide +kernel
theorem dX8_ruled_35 : decode cX8_ruled 35 = .ok (.istore 6, 2) := by decide +kernel
theorem dX8_ruled_37 : decode cX8_ruled 37 = .ok (.iconst 0, 1) := by decide +kernel
theorem dX8_ruled_38 : decode cX8_ruled 38 = .ok (.istore 7, 2) := by decide +kernel
theorem dX8_ruled_40 : decode cX8_ruled 40 = .ok (.iload 7, 2) := by decide +kernel
theorem dX8_ruled_42 : decode cX8_ruled 42 = .ok (.aload_n 0, 1) := by decide +kernel
theorem dX8_ruled_43 : decode cX8_ruled 43 = .ok (.getfield 135, 3) := by decide +kernel
theorem dX8_ruled_46 : decode cX8_ruled 46 = .ok (.if_icmp .ge 145, 3) := by decide +kernel
theorem dX8_ruled_49 : decode cX8_ruled 49 = .ok (.iload_n 3, 1) := by decide +kernel
theorem dX8_ruled_50 : decode cX8_ruled 50 = .ok (.iconst (-1), 1) := by decide +kernel
theorem dX8_ruled_51 : decode cX8_ruled 51 = .ok (.if_icmp .eq 21, 3) := by decide +kernel
theorem dX8_ruled_54 : decode cX8_ruled 54 = .ok (.iload 7, 2) := by decide +kernel
theorem dX8_ruled_56 : decode cX8_ruled 56 = .ok (.ifCond .le 20, 3) := by decide +kernel
theorem dX8_ruled_59 : decode cX8_ruled 59 = .ok (.aload_n 0, 1) := by decide +kernel
theorem dX8_ruled_60 : decode cX8_ruled 60 = .ok (.getfield 7, 3) := by decide +kernel
theorem dX8_ruled_63 : decode cX8_ruled 63 = .ok (.iload 7, 2) := by decide +kernel
theorem dX8_ruled_65 : decode cX8_ruled 65 = .ok (.iconst 1, 1) := by decide +kernel
theorem dX8_ruled_66 : decode cX8_ruled 66 = .ok (.isub, 1) := by decide +kernel
theorem dX8_ruled_67 : decode cX8_ruled 67 = .ok (.iaload, 1) := by decide +kernel
theorem dX8_ruled_68 : decode cX8_ruled 68 = .ok (.iload_n 3, 1) := by decide +kernel
theorem dX8_ruled_69 : decode cX8_ruled 69 = .ok (.if_icmp .ne 7, 3) := by decide +kernel
theorem dX8_ruled_72 : decode cX8_ruled 72 = .ok (.iconst 1, 1) := by decide +kernel
theorem dX8_ruled_73 : decode cX8_ruled 73 = .ok (.goto 4, 3) := by decide +kernel
theorem dX8_ruled_76 : decode cX8_ruled 76 = .ok (.iconst 0, 1) := by decide +kernel
theorem dX8_ruled_77 : decode cX8_ruled 77 = .ok (.istore 8, 2) := by decide +kernel
theorem dX8_ruled_79 : decode cX8_ruled 79 = .ok (.iload 4, 2) := by decide +kernel
theorem dX8_ruled_81 : decode cX8_ruled 81 = .ok (.iconst (-1), 1) := by decide +kernel
theorem dX8_ruled_82 : decode cX8_ruled 82 = .ok (.if_icmp .eq 28, 3) := by decide +kernel
theorem dX8_ruled_85 : decode cX8_ruled 85 = .ok (.iload 7, 2) := by decide +kernel
theorem dX8_ruled_87 : decode cX8_ruled 87 = .ok (.iconst 1, 1) := by decide +kernel
theorem dX8_ruled_88 : decode cX8_ruled 88 = .ok (.iadd, 1) := by decide +kernel
theorem dX8_ruled_89 : decode cX8_ruled 89 = .ok (.aload_n 0, 1) := by decide +kernel
theorem dX8_ruled_90 : decode cX8_ruled 90 = .ok (.getfield 135, 3) := by decide +kernel
theorem dX8_ruled_93 : decode cX8_ruled 93 = .ok (.if_icmp .ge 21, 3) := by decide +kernel
theorem dX8_ruled_96 : decode cX8_ruled 96 = .ok (.aload_n 0, 1) := by decide +kernel
theorem dX8_ruled_97 : decode cX8_ruled 97 = .ok (.getfield 7, 3) := by decide +kernel
theorem dX8_ruled_100 : decode cX8_ruled 100 = .ok (.iload 7, 2) := by decide +kernel
theorem dX8_ruled_102 : decode cX8_ruled 102 = .ok (.iconst 1, 1) := by decide +kernel
theorem dX8_ruled_103 : decode cX8_ruled 103 = .ok (.iadd, 1) := by decide +kernel
theorem dX8_ruled_104 : decode cX8_ruled 104 = .ok (.iaload, 1) := by decide +kernel
theorem dX8_ruled_105 : decode cX8_ruled 105 = .ok (.iload 4, 2) := by decide +kernel
theorem dX8_ruled_107 : decode cX8_ruled 107 = .ok (.if_icmp .ne 7, 3) := by decide +kernel
theorem dX8_ruled_110 : decode cX8_ruled 110 = .ok (.iconst 1, 1) := by decide +kernel
theorem dX8_ruled_111 : decode cX8_ruled 111 = .ok (.goto 4, 3) := by decide +kernel
theorem dX8_ruled_114 : decode cX8_ruled 114 = .ok (.iconst 0, 1) := by decide +kernel
theorem dX8_ruled_115 : decode cX8_ruled 115 = .ok (.istore 9, 2) := by decide +kernel
theorem dX8_ruled_117 : decode cX8_ruled 117 = .ok (.aload_n 0, 1) := by decide +kernel
theorem dX8_ruled_118 : decode cX8_ruled 118 = .ok (.getfield 7, 3) := by decide +kernel
theorem dX8_ruled_121 : decode cX8_ruled 121 = .ok (.iload 7, 2) := by decide +kernel
theorem dX8_ruled_123 : decode cX8_ruled 123 = .ok (.iaload, 1) := by decide +kernel
theorem dX8_ruled_124 : decode cX8_ruled 124 = .ok (.iload_n 1, 1) := by decide +kernel
theorem dX8_ruled_125 : decode cX8_ruled 125 = .ok (.if_icmp .ne 17, 3) := by decide +kernel
theorem dX8_ruled_128 : decode cX8_ruled 128 = .ok (.iload 8, 2) := by decide +kernel
theorem dX8_ruled_130 : decode cX8_ruled 130 = .ok (.ifCond .eq 12, 3) := by decide +kernel
theorem dX8_ruled_133 : decode cX8_ruled 133 = .ok (.iload 9, 2) := by decide +kernel
theorem dX8_ruled_135 : decode cX8_ruled 135 = .ok (.ifCond .eq 7, 3) := by decide +kernel
theorem dX8_ruled_138 : decode cX8_ruled 138 = .ok (.iload_n 2, 1) := by decide +kernel
theorem dX8_ruled_139 : decode cX8_ruled 139 = .ok (.goto 10, 3) := by decide +kernel
theorem dX8_ruled_142 : decode cX8_ruled 142 = .ok (.aload_n 0, 1) := by decide +kernel
theorem dX8_ruled_143 : decode cX8_ruled 143 = .ok (.getfield 7, 3) := by decide +kernel
theorem dX8_ruled_146 : decode cX8_ruled 146 = .ok (.iload 7, 2) := by decide +kernel
theorem dX8_ruled_148 : decode cX8_ruled 148 = .ok (.iaload, 1) := by decide +kernel
theorem dX8_ruled_149 : decode cX8_ruled 149 = .ok (.istore 10, 2) := by decide +kernel
theorem dX8_ruled_151 : decode cX8_ruled 151 = .ok (.iload 10, 2) := by decide +kernel
theorem dX8_ruled_153 : decode cX8_ruled 153 = .ok (.bipush 8, 2) := by decide +kernel
theorem dX8_ruled_155 : decode cX8_ruled 155 = .ok (.if_icmp .eq 13, 3) := by decide +kernel
theorem dX8_ruled_158 : decode cX8_ruled 158 = .ok (.iload 6, 2) := by decide +kernel
theorem dX8_ruled_160 : decode cX8_ruled 160 = .ok (.iload 5, 2) := by decide +kernel
theorem dX8_ruled_162 : decode cX8_ruled 162 = .ok (.if_icmp .ne 6, 3) := by decide +kernel
theorem dX8_ruled_165 : decode cX8_ruled 165 = .ok (.iload 10, 2) := by decide +kernel
theorem dX8_ruled_167 : decode cX8_ruled 167 = .ok (.ireturn, 1) := by decide +kernel
theorem dX8_ruled_168 : decode cX8_ruled 168 = .ok (.iload 6, 2) := by decide +kernel
theorem dX8_ruled_170 : decode cX8_ruled 170 = .ok (.iload 10, 2) := by decide +kernel
theorem dX8_ruled_172 : decode cX8_ruled 172 = .ok (.bipush 8, 2) := by decide +kernel
theorem dX8_ruled_174 : decode cX8_ruled 174 = .ok (.if_icmp .ne 7, 3) := by decide +kernel
theorem dX8_ruled_177 : decode cX8_ruled 177 = .ok (.iconst 0, 1) := by decide +kernel
theorem dX8_ruled_178 : decode cX8_ruled 178 = .ok (.goto 4, 3) := by decide +kernel
theorem dX8_ruled_181 : decode cX8_ruled 181 = .ok (.iconst 1, 1) := by decide +kernel
theorem dX8_ruled_182 : decode cX8_ruled 182 = .ok (.iadd, 1) := by decide +kernel
theorem dX8_ruled_183 : decode cX8_ruled 183 = .ok (.istore 6, 2) := by decide +kernel
theorem dX8_ruled_185 : decode cX8_ruled 185 = .ok (.iinc 7 1, 3) := by decide +kernel
theorem dX8_ruled_188 : decode cX8_ruled 188 = .ok (.goto (-148), 3) := by decide +kernel
theorem dX8_ruled_191 : decode cX8_ruled 191 = .ok (.bipush 8, 2) := by decide +kernel
theorem dX8_ruled_193 : decode cX8_ruled 193 = .ok (.ireturn, 1) := by decide +kernel
set_option maxRecDepth 20000 in
theorem ggX8_learn_X8_isIn : GoodIn wsX8_learn wsX8_isIn := goodIn_r _ [10] (by decide +kernel) (by decide +kernel)
set_option maxRecDepth 20000 in
theorem gX8_learn_X8_isIn : GoodIn wsX8_learn (va_wsS RX8 131 yX8_isIn wsX8_isIn) := goodIn_app (goodIn_of _ (by decide +kernel)) ggX8_learn_X8_isIn
set_option maxRecDepth 20000 in
theorem ggX8_learn_X8_isFine : GoodIn wsX8_learn wsX8_isFine := goodIn_r _ [14, 15, 16, 17, 18, 19, 20, 21, 22, 23, 24, 25, 26, 27, 28, 29, 30, 31, 32, 33, 34, 35, 36, 37, 38, 39, 40, 41, 42, 43, 44, 45, 46, 47, 48, 49, 50, 51, 52, 53, 54, 55, 56, 57, 58, 59, 60, 61, 62] (by decide +kernel) (by decide +kernel)
set_option maxRecDepth 20000 in
theorem gX8_learn_X8_isFine : GoodIn wsX8_learn (wsV RX8 138 RX8 yX8_isFine wsX8_isFine) := goodIn_app (goodIn_of _ (by decide +kernel)) ggX8_learn_X8_isFine
theorem dX8_learn_0 : decode cX8_learn 0 = .ok (.aload_n 0, 1) := by decide +kernel
theorem dX8_learn_1 : decode cX8_learn 1 = .ok (.iload_n 1, 1) := by decide +kernel
theorem dX8_learn_2 : decode cX8_learn 2 = .ok (.iconst 0, 1) := by decide +kernel
theorem dX8_learn_3 : decode cX8_learn 3 = .ok (.iconst 5, 1) := by decide +kernel
theorem dX8_learn_4 : decode cX8_learn 4 = .ok (.invokestatic 131, 3) := by decide +kernel
theorem dX8_learn_7 : decode cX8_learn 7 = .ok (.ifCond .ne 7, 3) := by decide +kernel
theorem dX8_learn_10 : decode cX8_learn 10 = .ok (.iconst 1, 1) := by decide +kernel
theorem dX8_learn_11 : decode cX8_learn 11 = .ok (.goto 17, 3) := by decide +kernel
theorem dX8_learn_14 : decode cX8_learn 14 = .ok (.aload_n 0, 1) := by decide +kernel
theorem dX8_learn_15 : decode cX8_learn 15 = .ok (.getfield 360, 3) := by decide +kernel
theorem dX8_learn_18 : decode cX8_learn 18 = .ok (.bipush 30, 2) := by decide +kernel
theorem dX8_learn_20 : decode cX8_learn 20 = .ok (.if_icmp .ne 7, 3) := by decide +kernel
theorem dX8_learn_23 : decode cX8_learn 23 = .ok (.iconst 2, 1) := by decide +kernel
theorem dX8_learn_24 : decode cX8_learn 24 = .ok (.goto 4, 3) := by decide +kernel
theorem dX8_learn_27 : decode cX8_learn 27 = .ok (.iconst 0, 1) := by decide +kernel
theorem dX8_learn_28 : decode cX8_learn 28 = .ok (.invokevirtual 138, 3) := by decide +kernel
theorem dX8_learn_31 : decode cX8_learn 31 = .ok (.ifCond .ne 5, 3) := by decide +kernel
theorem dX8_learn_34 : decode cX8_learn 34 = .ok (.iconst 0, 1) := by decide +kernel
theorem dX8_learn_35 : decode cX8_learn 35 = .ok (.ireturn, 1) := by decide +kernel
theorem dX8_learn_36 : decode cX8_learn 36 = .ok (.iconst 0, 1) := by decide +kernel
theorem dX8_learn_37 : decode cX8_learn 37 = .ok (.istore_n 2, 1) := by decide +kernel
theorem dX8_learn_38 : decode cX8_learn 38 = .ok (.iload_n 2, 1) := by decide +kernel
theorem dX8_learn_39 : decode cX8_learn 39 = .ok (.aload_n 0, 1) := by decide +kernel
theorem dX8_learn_40 : decode cX8_learn 40 = .ok (.getfield 135, 3) := by decide +kernel
theorem dX8_learn_43 : decode cX8_learn 43 = .ok (.if_icmp .ge 29, 3) := by decide +kernel
theorem dX8_learn_46 : decode cX8_learn 46 = .ok (.aload_n 0, 1) := by decide +kernel
theorem dX8_learn_47 : decode cX8_learn 47 = .ok (.getfield 115, 3) := by decide +kernel
theorem dX8_learn_50 : decode cX8_learn 50 = .ok (.bipush 8, 2) := by decide +kernel
theorem dX8_learn_52 : decode cX8_learn 52 = .ok (.aload_n 0, 1) := by decide +kernel
theorem dX8_learn_53 : decode cX8_learn 53 = .ok (.getfield 360, 3) := by decide +kernel
theorem dX8_learn_56 : decode cX8_learn 56 = .ok (.imul, 1) := by decide +kernel
theorem dX8_learn_57 : decode cX8_learn 57 = .ok (.iload_n 2, 1) := by decide +kernel
theorem dX8_learn_58 : decode cX8_learn 58 = .ok (.iadd, 1) := by decide +kernel
theorem dX8_learn_59 : decode cX8_learn 59 = .ok (.aload_n 0, 1) := by decide +kernel
theorem dX8_learn_60 : decode cX8_learn 60 = .ok (.getfield 7, 3) := by decide +kernel
theorem dX8_learn_63 : decode cX8_learn 63 = .ok (.iload_n 2, 1) := by decide +kernel
theorem dX8_learn_64 : decode cX8_learn 64 = .ok (.iaload, 1) := by decide +kernel
theorem dX8_learn_65 : decode cX8_learn 65 = .ok (.iastore, 1) := by decide +kernel
theorem dX8_learn_66 : decode cX8_learn 66 = .ok (.iinc 2 1, 3) := by decide +kernel
theorem dX8_learn_69 : decode cX8_learn 69 = .ok (.goto (-31), 3) := by decide +kernel
theorem dX8_learn_72 : decode cX8_learn 72 = .ok (.aload_n 0, 1) := by decide +kernel
theorem dX8_learn_73 : decode cX8_learn 73 = .ok (.getfield 118, 3) := by decide +kernel
theorem dX8_learn_76 : decode cX8_learn 76 = .ok (.aload_n 0, 1) := by decide +kernel
theorem dX8_learn_77 : decode cX8_learn 77 = .ok (.getfield 360, 3) := by decide +kernel
theorem dX8_learn_80 : decode cX8_learn 80 = .ok (.aload_n 0, 1) := by decide +kernel
theorem dX8_learn_81 : decode cX8_learn 81 = .ok (.getfield 135, 3) := by decide +kernel
theorem dX8_learn_84 : decode cX8_learn 84 = .ok (.iastore, 1) := by decide +kernel
theorem dX8_learn_85 : decode cX8_learn 85 = .ok (.aload_n 0, 1) := by decide +kernel
theorem dX8_learn_86 : decode cX8_learn 86 = .ok (.getfield 121, 3) := by decide +kernel
theorem dX8_learn_89 : decode cX8_learn 89 = .ok (.aload_n 0, 1) := by decide +kernel
theorem dX8_learn_90 : decode cX8_learn 90 = .ok (.getfield 360, 3) := by decide +kernel
theorem dX8_learn_93 : decode cX8_learn 93 = .ok (.iload_n 1, 1) := by decide +kernel
theorem dX8_learn_94 : decode cX8_learn 94 = .ok (.iastore, 1) := by decide +kernel
theorem dX8_learn_95 : decode cX8_learn 95 = .ok (.aload_n 0, 1) := by decide +kernel
theorem dX8_learn_96 : decode cX8_learn 96 = .ok (.dup, 1) := by decide +kernel
theorem dX8_learn_97 : decode cX8_learn 97 = .ok (.getfield 360, 3) := by decide +kernel
theorem dX8_learn_100 : decode cX8_learn 100 = .ok (.iconst 1, 1) := by decide +kernel
theorem dX8_learn_101 : decode cX8_learn 101 = .ok (.iadd, 1) := by decide +kernel
theorem dX8_learn_102 : decode cX8_learn 102 = .ok (.putfield 360, 3) := by decide +kernel
theorem dX8_learn_105 : decode cX8_learn 105 = .ok (.aload_n 0, 1) := by decide +kernel
theorem dX8_learn_106 : decode cX8_learn 106 = .ok (.getfield 360, 3) := by decide +kernel
theorem dX8_learn_109 : decode cX8_learn 109 = .ok (.ireturn, 1) := by decide +kernel
theorem dX8_inCommon_0 : decode cX8_inCommon 0 = .ok (.iconst 0, 1) := by decide +kernel
theorem dX8_inCommon_1 : decode cX8_inCommon 1 = .ok (.istore_n 2, 1) := by decide +kernel
theorem dX8_inCommon_2 : decode cX8_inCommon 2 = .ok (.iload_n 2, 1) := by decide +kernel
theorem dX8_inCommon_3 : decode cX8_inCommon 3 = .ok (.aload_n 0, 1) := by decide +kernel
theorem dX8_inCommon_4 : decode cX8_inCommon 4 = .ok (.getfield 135, 3) := by decide +kernel
theorem dX8_inCommon_7 : decode cX8_inCommon 7 = .ok (.if_icmp .ge 55, 3) := by decide +kernel
theorem dX8_inCommon_10 : decode cX8_inCommon 10 = .ok (.iload_n 2, 1) := by decide +kernel
theorem dX8_inCommon_11 : decode cX8_inCommon 11 = .ok (.aload_n 0, 1) := by decide +kernel
theorem dX8_inCommon_12 : decode cX8_inCommon 12 = .ok (.getfield 118, 3) := by decide +kernel
theorem dX8_inCommon_15 : decode cX8_inCommon 15 = .ok (.iload_n 1, 1) := by decide +kernel
theorem dX8_inCommon_16 : decode cX8_inCommon 16 = .ok (.iaload, 1) := by decide +kernel
theorem dX8_inCommon_17 : decode cX8_inCommon 17 = .ok (.if_icmp .ge 45, 3) := by decide +kernel
theorem dX8_inCommon_20 : decode cX8_inCommon 20 = .ok (.aload_n 0, 1) := by decide +kernel
theorem dX8_inCommon_21 : decode cX8_inCommon 21 = .ok (.getfield 115, 3) := by decide +kernel
theorem dX8_inCommon_24 : decode cX8_inCommon 24 = .ok (.bipush 8, 2) := by decide +kernel
theorem dX8_inCommon_26 : decode cX8_inCommon 26 = .ok (.iload_n 1, 1) := by decide +kernel
theorem dX8_inCommon_27 : decode cX8_inCommon 27 = .ok (.imul, 1) := by decide +kernel
theorem dX8_inCommon_28 : decode cX8_inCommon 28 = .ok (.aload_n 0, 1) := by decide +kernel
theorem dX8_inCommon_29 : decode cX8_inCommon 29 = .ok (.getfield 118, 3) := by decide +kernel
theorem dX8_inCommon_32 : decode cX8_inCommon 32 = .ok (.iload_n 1, 1) := by decide +kernel
theorem dX8_inCommon_33 : decode cX8_inCommon 33 = .ok (.iaload, 1) := by decide +kernel
theorem dX8_inCommon_34 : decode cX8_inCommon 34 = .ok (.iadd, 1) := by decide +kernel
theorem dX8_inCommon_35 : decode cX8_inCommon 35 = .ok (.iconst 1, 1) := by decide +kernel
theorem dX8_inCommon_36 : decode cX8_inCommon 36 = .ok (.isub, 1) := by decide +kernel
theorem dX8_inCommon_37 : decode cX8_inCommon 37 = .ok (.iload_n 2, 1) := by decide +kernel
theorem dX8_inCommon_38 : decode cX8_inCommon 38 = .ok (.isub, 1) := by decide +kernel
theorem dX8_inCommon_39 : decode cX8_inCommon 39 = .ok (.iaload, 1) := by decide +kernel
theorem dX8_inCommon_40 : decode cX8_inCommon 40 = .ok (.aload_n 0, 1) := by decide +kernel
theorem dX8_inCommon_41 : decode cX8_inCommon 41 = .ok (.getfield 7, 3) := by decide +kernel
theorem dX8_inCommon_44 : decode cX8_inCommon 44 = .ok (.aload_n 0, 1) := by decide +kernel
theorem dX8_inCommon_45 : decode cX8_inCommon 45 = .ok (.getfield 135, 3) := by decide +kernel
theorem dX8_inCommon_48 : decode cX8_inCommon 48 = .ok (.iconst 1, 1) := by decide +kernel
theorem dX8_inCommon_49 : decode cX8_inCommon 49 = .ok (.isub, 1) := by decide +kernel
theorem dX8_inCommon_50 : decode cX8_inCommon 50 = .ok (.iload_n 2, 1) := by decide +kernel
theorem dX8_inCommon_51 : decode cX8_inCommon 51 = .ok (.isub, 1) := by decide +kernel
theorem dX8_inCommon_52 : decode cX8_inCommon 52 = .ok (.iaload, 1) := by decide +kernel
theorem dX8_inCommon_53 : decode cX8_inCommon 53 = .ok (.if_icmp .ne 9, 3) := by decide +kernel
theorem dX8_inCommon_56 : decode cX8_inCommon 56 = .ok (.iinc 2 1, 3) := by decide +kernel
theorem dX8_inCommon_59 : decode cX8_inCommon 59 = .ok (.goto (-57), 3) := by decide +kernel
theorem dX8_inCommon_62 : decode cX8_inCommon 62 = .ok (.iload_n 2, 1) := by decide +kernel
theorem dX8_inCommon_63 : decode cX8_inCommon 63 = .ok (.ireturn, 1) := by decide +kernel
set_option maxRecDepth 20000 in
theorem ggX8_guess_X8_inCommon : GoodIn wsX8_guess wsX8_inCommon := goodIn_r _ [8, 9, 10, 11, 12, 16, 17, 18, 19, 20, 21, 22, 23, 24, 25, 26, 27, 28, 29, 30, 31, 32, 33, 34, 35, 36, 37, 38, 39, 40, 41, 42, 43, 44, 45, 46, 47, 48, 49, 50, 51, 52, 53, 54, 55, 56, 57, 58, 59, 60, 61, 62] (by decide +kernel) (by decide +kernel)
set_option maxRecDepth 20000 in
theorem gX8_guess_X8_inCommon : GoodIn wsX8_guess (wsV RX8 363 RX8 yX8_inCommon wsX8_inCommon) := goodIn_app (goodIn_of _ (by decide +kernel)) ggX8_guess_X8_inCommon
set_option maxRecDepth 20000 in
theorem ggX8_guess_X8_lesser : GoodIn wsX8_guess wsX8_lesser := goodIn_r _ [15] (by decide +kernel) (by decide +kernel)
set_option maxRecDepth 20000 in
theorem gX8_guess_X8_lesser : GoodIn wsX8_guess (va_wsS RX8 342 yX8_lesser wsX8_lesser) := goodIn_app (goodIn_of _ (by decide +kernel)) ggX8_guess_X8_lesser
theorem dX8_guess_0 : decode cX8_guess 0 = .ok (.aload_n 0, 1) := by decide +kernel
theorem dX8_guess_1 : decode cX8_guess 1 = .ok (.iconst 0, 1) := by decide +kernel
theorem dX8_guess_2 : decode cX8_guess 2 = .ok (.putfield 124, 3) := by decide +kernel
theorem dX8_guess_5 : decode cX8_guess 5 = .ok (.iconst 0, 1) := by decide +kernel
theorem dX8_guess_6 : decode cX8_guess 6 = .ok (.istore_n 1, 1) := by decide +kernel
theorem dX8_guess_7 : decode cX8_guess 7 = .ok (.iconst 0, 1) := by decide +kernel
theorem dX8_guess_8 : decode cX8_guess 8 = .ok (.istore_n 2, 1) := by decide +kernel
theorem dX8_guess_9 : decode cX8_guess 9 = .ok (.iload_n 2, 1) := by decide +kernel
theorem dX8_guess_10 : decode cX8_guess 10 = .ok (.aload_n 0, 1) := by decide +kernel
theorem dX8_guess_11 : decode cX8_guess 11 = .ok (.getfield 360, 3) := by decide +kernel
theorem dX8_guess_14 : decode cX8_guess 14 = .ok (.if_icmp .ge 28, 3) := by decide +kernel
theorem dX8_guess_17 : decode cX8_guess 17 = .ok (.aload_n 0, 1) := by decide +kernel
theorem dX8_guess_18 : decode cX8_guess 18 = .ok (.iload_n 2, 1) := by decide +kernel
theorem dX8_guess_19 : decode cX8_guess 19 = .ok (.invokevirtual 363, 3) := by decide +kernel
theorem dX8_guess_22 : decode cX8_guess 22 = .ok (.iload_n 1, 1) := by decide +kernel
theorem dX8_guess_23 : decode cX8_guess 23 = .ok (.if_icmp .le 11, 3) := by decide +kernel
theorem dX8_guess_26 : decode cX8_guess 26 = .ok (.aload_n 0, 1) := by decide +kernel
theorem dX8_guess_27 : decode cX8_guess 27 = .ok (.iload_n 2, 1) := by decide +kernel
theorem dX8_guess_28 : decode cX8_guess 28 = .ok (.invokevirtual 363, 3) := by decide +kernel
theorem dX8_guess_31 : decode cX8_guess 31 = .ok (.goto 4, 3) := by decide +kernel
theorem dX8_guess_34 : decode cX8_guess 34 = .ok (.iload_n 1, 1) := by decide +kernel
theorem dX8_guess_35 : decode cX8_guess 35 = .ok (.istore_n 1, 1) := by decide +kernel
theorem dX8_guess_36 : decode cX8_guess 36 = .ok (.iinc 2 1, 3) := by decide +kernel
theorem dX8_guess_39 : decode cX8_guess 39 = .ok (.goto (-30), 3) := by decide +kernel
theorem dX8_guess_42 : decode cX8_guess 42 = .ok (.iload_n 1, 1) := by decide +kernel
theorem dX8_guess_43 : decode cX8_guess 43 = .ok (.ifCond .ne 5, 3) := by decide +kernel
theorem dX8_guess_46 : decode cX8_guess 46 = .ok (.iconst (-1), 1) := by decide +kernel
theorem dX8_guess_47 : decode cX8_guess 47 = .ok (.ireturn, 1) := by decide +kernel
theorem dX8_guess_48 : decode cX8_guess 48 = .ok (.iconst 0, 1) := by decide +kernel
theorem dX8_guess_49 : decode cX8_guess 49 = .ok (.istore_n 2, 1) := by decide +kernel
theorem dX8_guess_50 : decode cX8_guess 50 = .ok (.iconst 0, 1) := by decide +kernel
theorem dX8_guess_51 : decode cX8_guess 51 = .ok (.istore_n 3, 1) := by decide +kernel
theorem dX8_guess_52 : decode cX8_guess 52 = .ok (.iconst 0, 1) := by decide +kernel
theorem dX8_guess_53 : decode cX8_guess 53 = .ok (.istore 4, 2) := by decide +kernel
theorem dX8_guess_55 : decode cX8_guess 55 = .ok (.iload 4, 2) := by decide +kernel
theorem dX8_guess_57 : decode cX8_guess 57 = .ok (.bipush 6, 2) := by decide +kernel
theorem dX8_guess_59 : decode cX8_guess 59 = .ok (.if_icmp .ge 88, 3) := by decide +kernel
theorem dX8_guess_62 : decode cX8_guess 62 = .ok (.iconst 0, 1) := by decide +kernel
theorem dX8_guess_63 : decode cX8_guess 63 = .ok (.istore 5, 2) := by decide +kernel
theorem dX8_guess_65 : decode cX8_guess 65 = .ok (.iconst 0, 1) := by decide +kernel
theorem dX8_guess_66 : decode cX8_guess 66 = .ok (.istore 6, 2) := by decide +kernel
theorem dX8_guess_68 : decode cX8_guess 68 = .ok (.iload 6, 2) := by decide +kernel
theorem dX8_guess_70 : decode cX8_guess 70 = .ok (.aload_n 0, 1) := by decide +kernel
theorem dX8_guess_71 : decode cX8_guess 71 = .ok (.getfield 360, 3) := by decide +kernel
theorem dX8_guess_74 : decode cX8_guess 74 = .ok (.if_icmp .ge 41, 3) := by decide +kernel
theorem dX8_guess_77 : decode cX8_guess 77 = .ok (.iload 5, 2) := by decide +kernel
theorem dX8_guess_79 : decode cX8_guess 79 = .ok (.aload_n 0, 1) := by decide +kernel
theorem dX8_guess_80 : decode cX8_guess 80 = .ok (.getfield 121, 3) := by decide +kernel
theorem dX8_guess_83 : decode cX8_guess 83 = .ok (.iload 6, 2) := by decide +kernel
theorem dX8_guess_85 : decode cX8_guess 85 = .ok (.iaload, 1) := by decide +kernel
theorem dX8_guess_86 : decode cX8_guess 86 = .ok (.iload 4, 2) := by decide +kernel
theorem dX8_guess_88 : decode cX8_guess 88 = .ok (.if_icmp .ne 17, 3) := by decide +kernel
theorem dX8_guess_91 : decode cX8_guess 91 = .ok (.aload_n 0, 1) := by decide +kernel
theorem dX8_guess_92 : decode cX8_guess 92 = .ok (.iload 6, 2) := by decide +kernel
theorem dX8_guess_94 : decode cX8_guess 94 = .ok (.invokevirtual 363, 3) := by decide +kernel
theorem dX8_guess_97 : decode cX8_guess 97 = .ok (.iload_n 1, 1) := by decide +kernel
theorem dX8_guess_98 : decode cX8_guess 98 = .ok (.if_icmp .ne 7, 3) := by decide +kernel
theorem dX8_guess_101 : decode cX8_guess 101 = .ok (.iconst 1, 1) := by decide +kernel
theorem dX8_guess_102 : decode cX8_guess 102 = .ok (.goto 4, 3) := by decide +kernel
theorem dX8_guess_105 : decode cX8_guess 105 = .ok (.iconst 0, 1) := by decide +kernel
theorem dX8_guess_106 : decode cX8_guess 106 = .ok (.iadd, 1) := by decide +kernel
theorem dX8_guess_107 : decode cX8_guess 107 = .ok (.istore 5, 2) := by decide +kernel
theorem dX8_guess_109 : decode cX8_guess 109 = .ok (.iinc 6 1, 3) := by decide +kernel
theorem dX8_guess_112 : decode cX8_guess 112 = .ok (.goto (-44), 3) := by decide +kernel
theorem dX8_guess_115 : decode cX8_guess 115 = .ok (.iload 5, 2) := by decide +kernel
theorem dX8_guess_117 : decode cX8_guess 117 = .ok (.iload_n 2, 1) := by decide +kernel
theorem dX8_guess_118 : decode cX8_guess 118 = .ok (.if_icmp .le 8, 3) := by decide +kernel
theorem dX8_guess_121 : decode cX8_guess 121 = .ok (.iload 4, 2) := by decide +kernel
theorem dX8_guess_123 : decode cX8_guess 123 = .ok (.goto 4, 3) := by decide +kernel
theorem dX8_guess_126 : decode cX8_guess 126 = .ok (.iload_n 3, 1) := by decide +kernel
theorem dX8_guess_127 : decode cX8_guess 127 = .ok (.istore_n 3, 1) := by decide +kernel
theorem dX8_guess_128 : decode cX8_guess 128 = .ok (.iload 5, 2) := by decide +kernel
theorem dX8_guess_130 : decode cX8_guess 130 = .ok (.iload_n 2, 1) := by decide +kernel
theorem dX8_guess_131 : decode cX8_guess 131 = .ok (.if_icmp .le 8, 3) := by decide +kernel
theorem dX8_guess_134 : decode cX8_guess 134 = .ok (.iload 5, 2) := by decide +kernel
theorem dX8_guess_136 : decode cX8_guess 136 = .ok (.goto 4, 3) := by decide +kernel
theorem dX8_guess_139 : decode cX8_guess 139 = .ok (.iload_n 2, 1) := by decide +kernel
theorem dX8_guess_140 : decode cX8_guess 140 = .ok (.istore_n 2, 1) := by decide +kernel
theorem dX8_guess_141 : decode cX8_guess 141 = .ok (.iinc 4 1, 3) := by decide +kernel
theorem dX8_guess_144 : decode cX8_guess 144 = .ok (.goto (-89), 3) := by decide +kernel
theorem dX8_guess_147 : decode cX8_guess 147 = .ok (.bipush 100, 2) := by decide +kernel
theorem dX8_guess_149 : decode cX8_guess 149 = .ok (.iload_n 1, 1) := by decide +kernel
theorem dX8_guess_150 : decode cX8_guess 150 = .ok (.imul, 1) := by decide +kernel
theorem dX8_guess_151 : decode cX8_guess 151 = .ok (.bipush 10, 2) := by decide +kernel
theorem dX8_guess_153 : decode cX8_guess 153 = .ok (.iload_n 3, 1) := by decide +kernel
theorem dX8_guess_154 : decode cX8_guess 154 = .ok (.imul, 1) := by decide +kernel
theorem dX8_guess_155 : decode cX8_guess 155 = .ok (.iadd, 1) := by decide +kernel
theorem dX8_guess_156 : decode cX8_guess 156 = .ok (.iload_n 2, 1) := by decide +kernel
theorem dX8_guess_157 : decode cX8_guess 157 = .ok (.bipush 9, 2) := by decide +kernel
theorem dX8_guess_159 : decode cX8_guess 159 = .ok (.invokestatic 342, 3) := by decide +kernel
theorem dX8_guess_162 : decode cX8_guess 162 = .ok (.iadd, 1) := by decide +kernel
theorem dX8_guess_163 : decode cX8_guess 163 = .ok (.ireturn, 1) := by decide +kernel
theorem dJ9_max_7cf53_0 : decode cJ9_max_7cf53 0 = .ok (.iload_n 0, 1) := by decide +kernel
theorem dJ9_max_7cf53_1 : decode cJ9_max_7cf53 1 = .ok (.iload_n 1, 1) := by decide +kernel
theorem dJ9_max_7cf53_2 : decode cJ9_max_7cf53 2 = .ok (.if_icmp .lt 7, 3) := by decide +kernel
theorem dJ9_max_7cf53_5 : decode cJ9_max_7cf53 5 = .ok (.iload_n 0, 1) := by decide +kernel
theorem dJ9_max_7cf53_6 : decode cJ9_max_7cf53 6 = .ok (.goto 4, 3) := by decide +kernel
theorem dJ9_max_7cf53_9 : decode cJ9_max_7cf53 9 = .ok (.iload_n 1, 1) := by decide +kernel
theorem dJ9_max_7cf53_10 : decode cJ9_max_7cf53 10 = .ok (.ireturn, 1) := by decide +kernel
theorem dJ9_min_7cf53_0 : decode cJ9_min_7cf53 0 = .ok (.iload_n 0, 1) := by decide +kernel
theorem dJ9_min_7cf53_1 : decode cJ9_min_7cf53 1 = .ok (.iload_n 1, 1) := by decide +kernel
theorem dJ9_min_7cf53_2 : decode cJ9_min_7cf53 2 = .ok (.if_icmp .gt 7, 3) := by decide +kernel
theorem dJ9_min_7cf53_5 : decode cJ9_min_7cf53 5 = .ok (.iload_n 0, 1) := by decide +kernel
theorem dJ9_min_7cf53_6 : decode cJ9_min_7cf53 6 = .ok (.goto 4, 3) := by decide +kernel
theorem dJ9_min_7cf53_9 : decode cJ9_min_7cf53 9 = .ok (.iload_n 1, 1) := by decide +kernel
theorem dJ9_min_7cf53_10 : decode cJ9_min_7cf53 10 = .ok (.ireturn, 1) := by decide +kernel
set_option maxRecDepth 20000 in
theorem ggL_type_X7_type : GoodIn wsL_type wsX7_type := goodIn_ca (goodIn_ca (goodIn_r _ [7, 8, 9, 10, 11, 12, 13, 14, 15, 6, 16, 17, 18, 19, 20, 21, 22, 23, 24] (by decide +kernel) (by decide +kernel)) (goodIn_sub (fun _ h => List.mem_cons_of_mem _ (List.mem_append_left _ (List.mem_append_right _ h))) (by decide +kernel))) (goodIn_sub (fun _ h => List.mem_cons_of_mem _ (List.mem_append_right _ h)) (by decide +kernel))
set_option maxRecDepth 20000 in
theorem gL_type_X7_type : GoodIn wsL_type (wsV RL 7 RX7 yX7_type wsX7_type) := goodIn_app (goodIn_of _ (by decide +kernel)) ggL_type_X7_type
