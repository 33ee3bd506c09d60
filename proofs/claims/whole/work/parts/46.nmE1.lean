theorem dX8_makesLeast_114 : decode cX8_makesLeast 114 = .ok (.aload_n 0, 1) := by decide +kernel
theorem dX8_makesLeast_115 : decode cX8_makesLeast 115 = .ok (.iload 6, 2) := by decide +kernel
theorem dX8_makesLeast_117 : decode cX8_makesLeast 117 = .ok (.iload_n 1, 1) := by decide +kernel
theorem dX8_makesLeast_118 : decode cX8_makesLeast 118 = .ok (.iload_n 2, 1) := by decide +kernel
theorem dX8_makesLeast_119 : decode cX8_makesLeast 119 = .ok (.iload_n 3, 1) := by decide +kernel
theorem dX8_makesLeast_120 : decode cX8_makesLeast 120 = .ok (.invokevirtual 253, 3) := by decide +kernel
theorem dX8_makesLeast_123 : decode cX8_makesLeast 123 = .ok (.bastore, 1) := by decide +kernel
theorem dX8_makesLeast_124 : decode cX8_makesLeast 124 = .ok (.iconst 1, 1) := by decide +kernel
theorem dX8_makesLeast_125 : decode cX8_makesLeast 125 = .ok (.istore 7, 2) := by decide +kernel
theorem dX8_makesLeast_127 : decode cX8_makesLeast 127 = .ok (.iconst 0, 1) := by decide +kernel
theorem dX8_makesLeast_128 : decode cX8_makesLeast 128 = .ok (.istore 8, 2) := by decide +kernel
theorem dX8_makesLeast_130 : decode cX8_makesLeast 130 = .ok (.iload 8, 2) := by decide +kernel
theorem dX8_makesLeast_132 : decode cX8_makesLeast 132 = .ok (.iload 6, 2) := by decide +kernel
theorem dX8_makesLeast_134 : decode cX8_makesLeast 134 = .ok (.if_icmp .ge 38, 3) := by decide +kernel
theorem dX8_makesLeast_137 : decode cX8_makesLeast 137 = .ok (.iload 7, 2) := by decide +kernel
theorem dX8_makesLeast_139 : decode cX8_makesLeast 139 = .ok (.ifCond .eq 24, 3) := by decide +kernel
theorem dX8_makesLeast_142 : decode cX8_makesLeast 142 = .ok (.aload_n 0, 1) := by decide +kernel
theorem dX8_makesLeast_143 : decode cX8_makesLeast 143 = .ok (.getfield 90, 3) := by decide +kernel
theorem dX8_makesLeast_146 : decode cX8_makesLeast 146 = .ok (.iload 8, 2) := by decide +kernel
theorem dX8_makesLeast_148 : decode cX8_makesLeast 148 = .ok (.iaload, 1) := by decide +kernel
theorem dX8_makesLeast_149 : decode cX8_makesLeast 149 = .ok (.aload_n 0, 1) := by decide +kernel
theorem dX8_makesLeast_150 : decode cX8_makesLeast 150 = .ok (.getfield 90, 3) := by decide +kernel
theorem dX8_makesLeast_153 : decode cX8_makesLeast 153 = .ok (.iload 6, 2) := by decide +kernel
theorem dX8_makesLeast_155 : decode cX8_makesLeast 155 = .ok (.iaload, 1) := by decide +kernel
theorem dX8_makesLeast_156 : decode cX8_makesLeast 156 = .ok (.if_icmp .eq 7, 3) := by decide +kernel
theorem dX8_makesLeast_159 : decode cX8_makesLeast 159 = .ok (.iconst 1, 1) := by decide +kernel
theorem dX8_makesLeast_160 : decode cX8_makesLeast 160 = .ok (.goto 4, 3) := by decide +kernel
theorem dX8_makesLeast_163 : decode cX8_makesLeast 163 = .ok (.iconst 0, 1) := by decide +kernel
theorem dX8_makesLeast_164 : decode cX8_makesLeast 164 = .ok (.istore 7, 2) := by decide +kernel
theorem dX8_makesLeast_166 : decode cX8_makesLeast 166 = .ok (.iinc 8 1, 3) := by decide +kernel
theorem dX8_makesLeast_169 : decode cX8_makesLeast 169 = .ok (.goto (-39), 3) := by decide +kernel
theorem dX8_makesLeast_172 : decode cX8_makesLeast 172 = .ok (.iconst 0, 1) := by decide +kernel
theorem dX8_makesLeast_173 : decode cX8_makesLeast 173 = .ok (.istore 8, 2) := by decide +kernel
theorem dX8_makesLeast_175 : decode cX8_makesLeast 175 = .ok (.iload 8, 2) := by decide +kernel
theorem dX8_makesLeast_177 : decode cX8_makesLeast 177 = .ok (.bipush 8, 2) := by decide +kernel
theorem dX8_makesLeast_179 : decode cX8_makesLeast 179 = .ok (.if_icmp .ge 65, 3) := by decide +kernel
theorem dX8_makesLeast_182 : decode cX8_makesLeast 182 = .ok (.iload 7, 2) := by decide +kernel
theorem dX8_makesLeast_184 : decode cX8_makesLeast 184 = .ok (.ifCond .eq 60, 3) := by decide +kernel
theorem dX8_makesLeast_187 : decode cX8_makesLeast 187 = .ok (.aload_n 0, 1) := by decide +kernel
theorem dX8_makesLeast_188 : decode cX8_makesLeast 188 = .ok (.getfield 81, 3) := by decide +kernel
theorem dX8_makesLeast_191 : decode cX8_makesLeast 191 = .ok (.bipush 8, 2) := by decide +kernel
theorem dX8_makesLeast_193 : decode cX8_makesLeast 193 = .ok (.iload 6, 2) := by decide +kernel
theorem dX8_makesLeast_195 : decode cX8_makesLeast 195 = .ok (.imul, 1) := by decide +kernel
theorem dX8_makesLeast_196 : decode cX8_makesLeast 196 = .ok (.iload 8, 2) := by decide +kernel
theorem dX8_makesLeast_198 : decode cX8_makesLeast 198 = .ok (.iadd, 1) := by decide +kernel
theorem dX8_makesLeast_199 : decode cX8_makesLeast 199 = .ok (.iaload, 1) := by decide +kernel
theorem dX8_makesLeast_200 : decode cX8_makesLeast 200 = .ok (.iconst (-1), 1) := by decide +kernel
theorem dX8_makesLeast_201 : decode cX8_makesLeast 201 = .ok (.if_icmp .eq 37, 3) := by decide +kernel
theorem dX8_makesLeast_204 : decode cX8_makesLeast 204 = .ok (.aload_n 0, 1) := by decide +kernel
theorem dX8_makesLeast_205 : decode cX8_makesLeast 205 = .ok (.aload_n 0, 1) := by decide +kernel
theorem dX8_makesLeast_206 : decode cX8_makesLeast 206 = .ok (.getfield 90, 3) := by decide +kernel
theorem dX8_makesLeast_209 : decode cX8_makesLeast 209 = .ok (.iload 6, 2) := by decide +kernel
theorem dX8_makesLeast_211 : decode cX8_makesLeast 211 = .ok (.iaload, 1) := by decide +kernel
theorem dX8_makesLeast_212 : decode cX8_makesLeast 212 = .ok (.iload 8, 2) := by decide +kernel
theorem dX8_makesLeast_214 : decode cX8_makesLeast 214 = .ok (.iload 8, 2) := by decide +kernel
theorem dX8_makesLeast_216 : decode cX8_makesLeast 216 = .ok (.iconst 0, 1) := by decide +kernel
theorem dX8_makesLeast_217 : decode cX8_makesLeast 217 = .ok (.aload_n 0, 1) := by decide +kernel
theorem dX8_makesLeast_218 : decode cX8_makesLeast 218 = .ok (.getfield 90, 3) := by decide +kernel
theorem dX8_makesLeast_221 : decode cX8_makesLeast 221 = .ok (.aload_n 0, 1) := by decide +kernel
theorem dX8_makesLeast_222 : decode cX8_makesLeast 222 = .ok (.getfield 81, 3) := by decide +kernel
theorem dX8_makesLeast_225 : decode cX8_makesLeast 225 = .ok (.bipush 8, 2) := by decide +kernel
theorem dX8_makesLeast_227 : decode cX8_makesLeast 227 = .ok (.iload 6, 2) := by decide +kernel
theorem dX8_makesLeast_229 : decode cX8_makesLeast 229 = .ok (.imul, 1) := by decide +kernel
theorem dX8_makesLeast_230 : decode cX8_makesLeast 230 = .ok (.iload 8, 2) := by decide +kernel
theorem dX8_makesLeast_232 : decode cX8_makesLeast 232 = .ok (.iadd, 1) := by decide +kernel
theorem dX8_makesLeast_233 : decode cX8_makesLeast 233 = .ok (.iaload, 1) := by decide +kernel
theorem dX8_makesLeast_234 : decode cX8_makesLeast 234 = .ok (.iaload, 1) := by decide +kernel
theorem dX8_makesLeast_235 : decode cX8_makesLeast 235 = .ok (.invokevirtual 180, 3) := by decide +kernel
theorem dX8_makesLeast_238 : decode cX8_makesLeast 238 = .ok (.iinc 8 1, 3) := by decide +kernel
theorem dX8_makesLeast_241 : decode cX8_makesLeast 241 = .ok (.goto (-66), 3) := by decide +kernel
theorem dX8_makesLeast_244 : decode cX8_makesLeast 244 = .ok (.iinc 6 1, 3) := by decide +kernel
theorem dX8_makesLeast_247 : decode cX8_makesLeast 247 = .ok (.goto (-153), 3) := by decide +kernel
theorem dX8_makesLeast_250 : decode cX8_makesLeast 250 = .ok (.aload_n 0, 1) := by decide +kernel
theorem dX8_makesLeast_251 : decode cX8_makesLeast 251 = .ok (.aload_n 0, 1) := by decide +kernel
theorem dX8_makesLeast_252 : decode cX8_makesLeast 252 = .ok (.getfield 90, 3) := by decide +kernel
theorem dX8_makesLeast_255 : decode cX8_makesLeast 255 = .ok (.iconst 0, 1) := by decide +kernel
theorem dX8_makesLeast_256 : decode cX8_makesLeast 256 = .ok (.iaload, 1) := by decide +kernel
theorem dX8_makesLeast_257 : decode cX8_makesLeast 257 = .ok (.invokevirtual 191, 3) := by decide +kernel
theorem dX8_makesLeast_260 : decode cX8_makesLeast 260 = .ok (.ireturn, 1) := by decide +kernel
set_option maxRecDepth 20000 in
theorem ggX8_least_X8_isMachine : GoodIn wsX8_least wsX8_isMachine := goodIn_r _ [5, 6, 7, 8, 4, 9, 136, 137, 138, 139, 140, 141, 142, 143, 144, 145, 146, 147, 148, 149, 150, 151, 152, 153, 154, 155, 156, 157, 158, 159, 160, 161, 162, 163, 164, 165, 166, 167, 168, 169, 170, 171, 172, 173, 174, 175, 176, 177, 178, 179, 180, 181, 182] rfl (by decide +kernel)
set_option maxRecDepth 20000 in
theorem gX8_least_X8_isMachine : GoodIn wsX8_least (wsV RX8 204 RX8 yX8_isMachine wsX8_isMachine) := goodIn_app (goodIn_of _ (by decide +kernel)) ggX8_least_X8_isMachine
set_option maxRecDepth 20000 in
theorem ggX8_least_X8_isThere : GoodIn wsX8_least wsX8_isThere := goodIn_r _ [13, 6, 136, 137, 138, 139, 140, 141, 142, 143, 144, 145, 146, 147, 148, 149, 150, 151, 152, 153, 154, 155, 156, 157, 158, 159, 160, 161, 162, 163, 164, 165, 166, 167, 168, 169, 170, 171, 172, 173, 174, 175, 176, 177, 178, 179, 180, 181, 182] rfl (by decide +kernel)
set_option maxRecDepth 20000 in
theorem gX8_least_X8_isThere : GoodIn wsX8_least (wsV RX8 184 RX8 yX8_isThere wsX8_isThere) := goodIn_app (goodIn_of _ (by decide +kernel)) ggX8_least_X8_isThere
set_option maxRecDepth 20000 in
theorem ggX8_least_X8_isPlainOf : GoodIn wsX8_least wsX8_isPlainOf := goodIn_r _ [17, 18, 19, 20, 21, 136, 137, 138, 139, 140, 141, 142, 143, 144, 145, 146, 147, 148, 149, 150, 151, 152, 153, 154, 155, 156, 157, 158, 159, 160, 161, 162, 163, 164, 165, 166, 167, 168, 169, 170, 171, 172, 173, 174, 175, 176, 177, 178, 179, 180, 181, 182] rfl (by decide +kernel)
set_option maxRecDepth 20000 in
theorem gX8_least_X8_isPlainOf : GoodIn wsX8_least (wsV RX8 263 RX8 yX8_isPlainOf wsX8_isPlainOf) := goodIn_app (goodIn_of _ (by decide +kernel)) ggX8_least_X8_isPlainOf
set_option maxRecDepth 20000 in
theorem ggX8_least_X8_makesLeast : GoodIn wsX8_least wsX8_makesLeast := goodIn_r _ [25, 26, 27, 28, 29, 30, 31, 32, 4, 33, 34, 35, 36, 37, 38, 39, 18, 19, 40, 41, 42, 43, 44, 45, 46, 47, 48, 49, 50, 51, 52, 53, 54, 55, 56, 57, 58, 59, 60, 61, 62, 63, 64, 65, 66, 67, 68, 69, 70, 71, 72, 73, 74, 75, 76, 77, 78, 79, 80, 81, 82, 83, 84, 85, 86, 87, 88, 89, 90, 91, 92, 93, 94, 95, 96, 97, 98, 99, 100, 101, 102, 103, 104, 105, 106, 107, 108, 109, 110, 111, 112, 113, 114, 115, 116, 117, 136, 137, 138, 139, 140, 141, 142, 143, 144, 145, 146, 147, 148, 149, 150, 151, 152, 153, 154, 155, 156, 157, 158, 159, 160, 161, 162, 163, 164, 165, 166, 167, 168, 169, 170, 171, 172, 173, 174, 175, 176, 177, 178, 179, 180, 181, 182] rfl (by decide +kernel)
set_option maxRecDepth 20000 in
theorem gX8_least_X8_makesLeast : GoodIn wsX8_least (wsV RX8 266 RX8 yX8_makesLeast wsX8_makesLeast) := goodIn_app (goodIn_of _ (by decide +kernel)) ggX8_least_X8_makesLeast
set_option maxRecDepth 20000 in
theorem ggX8_least_X8_isFine : GoodIn wsX8_least wsX8_isFine := goodIn_r _ [121, 122, 136, 137, 138, 139, 140, 141, 142, 143, 144, 145, 146, 147, 148, 149, 150, 151, 152, 153, 154, 155, 156, 157, 158, 159, 160, 161, 162, 163, 164, 165, 166, 167, 168, 169, 170, 171, 172, 173, 174, 175, 176, 177, 178, 179, 180, 181, 182] rfl (by decide +kernel)
set_option maxRecDepth 20000 in
theorem gX8_least_X8_isFine : GoodIn wsX8_least (wsV RX8 138 RX8 yX8_isFine wsX8_isFine) := goodIn_app (goodIn_of _ (by decide +kernel)) ggX8_least_X8_isFine
set_option maxRecDepth 20000 in
theorem ggX8_least_X8_keeps : GoodIn wsX8_least wsX8_keeps := goodIn_r _ [126, 90, 6, 127, 89, 59, 98, 18, 40, 93, 19, 94, 20, 95, 21, 96, 41, 97, 128, 129, 130, 4, 131, 132, 133, 134, 135, 136, 137, 138, 139, 140, 141, 142, 143, 144, 145, 146, 147, 148, 149, 150, 151, 152, 153, 154, 155, 156, 157, 158, 159, 160, 161, 162, 163, 164, 165, 166, 167, 168, 169, 170, 171, 172, 173, 174, 175, 176, 177, 178, 179, 180, 181, 182] rfl (by decide +kernel)
set_option maxRecDepth 20000 in
theorem gX8_least_X8_keeps : GoodIn wsX8_least (wsV RX8 194 RX8 yX8_keeps wsX8_keeps) := goodIn_app (goodIn_of _ (by decide +kernel)) ggX8_least_X8_keeps
theorem dX8_least_0 : decode cX8_least 0 = .ok (.aload_n 0, 1) := by decide +kernel
theorem dX8_least_1 : decode cX8_least 1 = .ok (.iload_n 1, 1) := by decide +kernel
theorem dX8_least_2 : decode cX8_least 2 = .ok (.invokevirtual 204, 3) := by decide +kernel
theorem dX8_least_5 : decode cX8_least 5 = .ok (.istore_n 2, 1) := by decide +kernel
theorem dX8_least_6 : decode cX8_least 6 = .ok (.aload_n 0, 1) := by decide +kernel
theorem dX8_least_7 : decode cX8_least 7 = .ok (.iload_n 2, 1) := by decide +kernel
theorem dX8_least_8 : decode cX8_least 8 = .ok (.ifCond .ne 7, 3) := by decide +kernel
theorem dX8_least_11 : decode cX8_least 11 = .ok (.iconst 1, 1) := by decide +kernel
theorem dX8_least_12 : decode cX8_least 12 = .ok (.goto 33, 3) := by decide +kernel
theorem dX8_least_15 : decode cX8_least 15 = .ok (.aload_n 0, 1) := by decide +kernel
theorem dX8_least_16 : decode cX8_least 16 = .ok (.invokevirtual 184, 3) := by decide +kernel
theorem dX8_least_19 : decode cX8_least 19 = .ok (.ifCond .eq 21, 3) := by decide +kernel
theorem dX8_least_22 : decode cX8_least 22 = .ok (.aload_n 0, 1) := by decide +kernel
theorem dX8_least_23 : decode cX8_least 23 = .ok (.iload_n 1, 1) := by decide +kernel
theorem dX8_least_24 : decode cX8_least 24 = .ok (.invokevirtual 263, 3) := by decide +kernel
theorem dX8_least_27 : decode cX8_least 27 = .ok (.ifCond .eq 13, 3) := by decide +kernel
theorem dX8_least_30 : decode cX8_least 30 = .ok (.aload_n 0, 1) := by decide +kernel
theorem dX8_least_31 : decode cX8_least 31 = .ok (.iload_n 1, 1) := by decide +kernel
theorem dX8_least_32 : decode cX8_least 32 = .ok (.iload_n 1, 1) := by decide +kernel
theorem dX8_least_33 : decode cX8_least 33 = .ok (.iconst 0, 1) := by decide +kernel
theorem dX8_least_34 : decode cX8_least 34 = .ok (.invokevirtual 266, 3) := by decide +kernel
theorem dX8_least_37 : decode cX8_least 37 = .ok (.ifCond .ne 7, 3) := by decide +kernel
theorem dX8_least_40 : decode cX8_least 40 = .ok (.iconst 2, 1) := by decide +kernel
theorem dX8_least_41 : decode cX8_least 41 = .ok (.goto 4, 3) := by decide +kernel
theorem dX8_least_44 : decode cX8_least 44 = .ok (.iconst 0, 1) := by decide +kernel
theorem dX8_least_45 : decode cX8_least 45 = .ok (.invokevirtual 138, 3) := by decide +kernel
theorem dX8_least_48 : decode cX8_least 48 = .ok (.ifCond .ne 5, 3) := by decide +kernel
theorem dX8_least_51 : decode cX8_least 51 = .ok (.iconst 0, 1) := by decide +kernel
theorem dX8_least_52 : decode cX8_least 52 = .ok (.ireturn, 1) := by decide +kernel
theorem dX8_least_53 : decode cX8_least 53 = .ok (.aload_n 0, 1) := by decide +kernel
theorem dX8_least_54 : decode cX8_least 54 = .ok (.invokevirtual 194, 3) := by decide +kernel
theorem dX8_least_57 : decode cX8_least 57 = .ok (.ireturn, 1) := by decide +kernel
set_option maxRecDepth 20000 in
theorem ggX8_meet_X8_isMachine : GoodIn wsX8_meet wsX8_isMachine := goodIn_r _ [5, 6, 7, 8, 4, 9, 136, 137, 138, 139, 140, 141, 142, 143, 144, 145, 146, 147, 148, 149, 150, 151, 152, 153, 154, 155, 156, 157, 158, 159, 160, 161, 162, 163, 164, 165, 166, 167, 168, 169, 170, 171, 172, 173, 174, 175, 176, 177, 178, 179, 180, 181, 182] rfl (by decide +kernel)
set_option maxRecDepth 20000 in
theorem gX8_meet_X8_isMachine : GoodIn wsX8_meet (wsV RX8 204 RX8 yX8_isMachine wsX8_isMachine) := goodIn_app (goodIn_of _ (by decide +kernel)) ggX8_meet_X8_isMachine
set_option maxRecDepth 20000 in
theorem ggX8_meet_X8_isThere : GoodIn wsX8_meet wsX8_isThere := goodIn_r _ [13, 6, 136, 137, 138, 139, 140, 141, 142, 143, 144, 145, 146, 147, 148, 149, 150, 151, 152, 153, 154, 155, 156, 157, 158, 159, 160, 161, 162, 163, 164, 165, 166, 167, 168, 169, 170, 171, 172, 173, 174, 175, 176, 177, 178, 179, 180, 181, 182] rfl (by decide +kernel)
set_option maxRecDepth 20000 in
theorem gX8_meet_X8_isThere : GoodIn wsX8_meet (wsV RX8 184 RX8 yX8_isThere wsX8_isThere) := goodIn_app (goodIn_of _ (by decide +kernel)) ggX8_meet_X8_isThere
set_option maxRecDepth 20000 in
theorem ggX8_meet_X8_isPlainOf : GoodIn wsX8_meet wsX8_isPlainOf := goodIn_r _ [17, 18, 19, 20, 21, 136, 137, 138, 139, 140, 141, 142, 143, 144, 145, 146, 147, 148, 149, 150, 151, 152, 153, 154, 155, 156, 157, 158, 159, 160, 161, 162, 163, 164, 165, 166, 167, 168, 169, 170, 171, 172, 173, 174, 175, 176, 177, 178, 179, 180, 181, 182] rfl (by decide +kernel)
set_option maxRecDepth 20000 in
theorem gX8_meet_X8_isPlainOf : GoodIn wsX8_meet (wsV RX8 263 RX8 yX8_isPlainOf wsX8_isPlainOf) := goodIn_app (goodIn_of _ (by decide +kernel)) ggX8_meet_X8_isPlainOf
set_option maxRecDepth 20000 in
theorem ggX8_meet_X8_makesLeast : GoodIn wsX8_meet wsX8_makesLeast := goodIn_r _ [25, 26, 27, 28, 29, 30, 31, 32, 4, 33, 34, 35, 36, 37, 38, 39, 18, 19, 40, 41, 42, 43, 44, 45, 46, 47, 48, 49, 50, 51, 52, 53, 54, 55, 56, 57, 58, 59, 60, 61, 62, 63, 64, 65, 66, 67, 68, 69, 70, 71, 72, 73, 74, 75, 76, 77, 78, 79, 80, 81, 82, 83, 84, 85, 86, 87, 88, 89, 90, 91, 92, 93, 94, 95, 96, 97, 98, 99, 100, 101, 102, 103, 104, 105, 106, 107, 108, 109, 110, 111, 112, 113, 114, 115, 116, 117, 136, 137, 138, 139, 140, 141, 142, 143, 144, 145, 146, 147, 148, 149, 150, 151, 152, 153, 154, 155, 156, 157, 158, 159, 160, 161, 162, 163, 164, 165, 166, 167, 168, 169, 170, 171, 172, 173, 174, 175, 176, 177, 178, 179, 180, 181, 182] rfl (by decide +kernel)
set_option maxRecDepth 20000 in
theorem gX8_meet_X8_makesLeast : GoodIn wsX8_meet (wsV RX8 266 RX8 yX8_makesLeast wsX8_makesLeast) := goodIn_app (goodIn_of _ (by decide +kernel)) ggX8_meet_X8_makesLeast
set_option maxRecDepth 20000 in
theorem ggX8_meet_X8_isFine : GoodIn wsX8_meet wsX8_isFine := goodIn_r _ [121, 122, 136, 137, 138, 139, 140, 141, 142, 143, 144, 145, 146, 147, 148, 149, 150, 151, 152, 153, 154, 155, 156, 157, 158, 159, 160, 161, 162, 163, 164, 165, 166, 167, 168, 169, 170, 171, 172, 173, 174, 175, 176, 177, 178, 179, 180, 181, 182] rfl (by decide +kernel)
set_option maxRecDepth 20000 in
theorem gX8_meet_X8_isFine : GoodIn wsX8_meet (wsV RX8 138 RX8 yX8_isFine wsX8_isFine) := goodIn_app (goodIn_of _ (by decide +kernel)) ggX8_meet_X8_isFine
set_option maxRecDepth 20000 in
theorem ggX8_meet_X8_keeps : GoodIn wsX8_meet wsX8_keeps := goodIn_r _ [126, 90, 6, 127, 89, 59, 98, 18, 40, 93, 19, 94, 20, 95, 21, 96, 41, 97, 128, 129, 130, 4, 131, 132, 133, 134, 135, 136, 137, 138, 139, 140, 141, 142, 143, 144, 145, 146, 147, 148, 149, 150, 151, 152, 153, 154, 155, 156, 157, 158, 159, 160, 161, 162, 163, 164, 165, 166, 167, 168, 169, 170, 171, 172, 173, 174, 175, 176, 177, 178, 179, 180, 181, 182] rfl (by decide +kernel)
set_option maxRecDepth 20000 in
theorem gX8_meet_X8_keeps : GoodIn wsX8_meet (wsV RX8 194 RX8 yX8_keeps wsX8_keeps) := goodIn_app (goodIn_of _ (by decide +kernel)) ggX8_meet_X8_keeps
theorem dX8_meet_0 : decode cX8_meet 0 = .ok (.aload_n 0, 1) := by decide +kernel
theorem dX8_meet_1 : decode cX8_meet 1 = .ok (.iload_n 1, 1) := by decide +kernel
theorem dX8_meet_2 : decode cX8_meet 2 = .ok (.invokevirtual 204, 3) := by decide +kernel
theorem dX8_meet_5 : decode cX8_meet 5 = .ok (.ifCond .eq 15, 3) := by decide +kernel
theorem dX8_meet_8 : decode cX8_meet 8 = .ok (.aload_n 0, 1) := by decide +kernel
theorem dX8_meet_9 : decode cX8_meet 9 = .ok (.iload_n 2, 1) := by decide +kernel
theorem dX8_meet_10 : decode cX8_meet 10 = .ok (.invokevirtual 204, 3) := by decide +kernel
theorem dX8_meet_13 : decode cX8_meet 13 = .ok (.ifCond .eq 7, 3) := by decide +kernel
theorem dX8_meet_16 : decode cX8_meet 16 = .ok (.iconst 1, 1) := by decide +kernel
theorem dX8_meet_17 : decode cX8_meet 17 = .ok (.goto 4, 3) := by decide +kernel
theorem dX8_meet_20 : decode cX8_meet 20 = .ok (.iconst 0, 1) := by decide +kernel
theorem dX8_meet_21 : decode cX8_meet 21 = .ok (.istore 4, 2) := by decide +kernel
theorem dX8_meet_23 : decode cX8_meet 23 = .ok (.iload 4, 2) := by decide +kernel
theorem dX8_meet_25 : decode cX8_meet 25 = .ok (.ifCond .eq 30, 3) := by decide +kernel
theorem dX8_meet_28 : decode cX8_meet 28 = .ok (.aload_n 0, 1) := by decide +kernel
theorem dX8_meet_29 : decode cX8_meet 29 = .ok (.invokevirtual 184, 3) := by decide +kernel
theorem dX8_meet_32 : decode cX8_meet 32 = .ok (.ifCond .eq 23, 3) := by decide +kernel
theorem dX8_meet_35 : decode cX8_meet 35 = .ok (.aload_n 0, 1) := by decide +kernel
theorem dX8_meet_36 : decode cX8_meet 36 = .ok (.iload_n 1, 1) := by decide +kernel
theorem dX8_meet_37 : decode cX8_meet 37 = .ok (.invokevirtual 263, 3) := by decide +kernel
theorem dX8_meet_40 : decode cX8_meet 40 = .ok (.ifCond .eq 15, 3) := by decide +kernel
theorem dX8_meet_43 : decode cX8_meet 43 = .ok (.aload_n 0, 1) := by decide +kernel
theorem dX8_meet_44 : decode cX8_meet 44 = .ok (.iload_n 2, 1) := by decide +kernel
theorem dX8_meet_45 : decode cX8_meet 45 = .ok (.invokevirtual 263, 3) := by decide +kernel
theorem dX8_meet_48 : decode cX8_meet 48 = .ok (.ifCond .eq 7, 3) := by decide +kernel
theorem dX8_meet_51 : decode cX8_meet 51 = .ok (.iconst 1, 1) := by decide +kernel
theorem dX8_meet_52 : decode cX8_meet 52 = .ok (.goto 4, 3) := by decide +kernel
theorem dX8_meet_55 : decode cX8_meet 55 = .ok (.iconst 0, 1) := by decide +kernel
theorem dX8_meet_56 : decode cX8_meet 56 = .ok (.istore 5, 2) := by decide +kernel
theorem dX8_meet_58 : decode cX8_meet 58 = .ok (.aload_n 0, 1) := by decide +kernel
theorem dX8_meet_59 : decode cX8_meet 59 = .ok (.iload 4, 2) := by decide +kernel
theorem dX8_meet_61 : decode cX8_meet 61 = .ok (.ifCond .ne 7, 3) := by decide +kernel
theorem dX8_meet_64 : decode cX8_meet 64 = .ok (.iconst 1, 1) := by decide +kernel
theorem dX8_meet_65 : decode cX8_meet 65 = .ok (.goto 31, 3) := by decide +kernel
theorem dX8_meet_68 : decode cX8_meet 68 = .ok (.iload 5, 2) := by decide +kernel
theorem dX8_meet_70 : decode cX8_meet 70 = .ok (.ifCond .eq 21, 3) := by decide +kernel
theorem dX8_meet_73 : decode cX8_meet 73 = .ok (.aload_n 0, 1) := by decide +kernel
theorem dX8_meet_74 : decode cX8_meet 74 = .ok (.iload_n 1, 1) := by decide +kernel
theorem dX8_meet_75 : decode cX8_meet 75 = .ok (.iload_n 2, 1) := by decide +kernel
theorem dX8_meet_76 : decode cX8_meet 76 = .ok (.iload_n 3, 1) := by decide +kernel
theorem dX8_meet_77 : decode cX8_meet 77 = .ok (.ifCond .eq 7, 3) := by decide +kernel
theorem dX8_meet_80 : decode cX8_meet 80 = .ok (.iconst 1, 1) := by decide +kernel
theorem dX8_meet_81 : decode cX8_meet 81 = .ok (.goto 4, 3) := by decide +kernel
theorem dX8_meet_84 : decode cX8_meet 84 = .ok (.iconst 2, 1) := by decide +kernel
theorem dX8_meet_85 : decode cX8_meet 85 = .ok (.invokevirtual 266, 3) := by decide +kernel
theorem dX8_meet_88 : decode cX8_meet 88 = .ok (.ifCond .ne 7, 3) := by decide +kernel
theorem dX8_meet_91 : decode cX8_meet 91 = .ok (.iconst 2, 1) := by decide +kernel
theorem dX8_meet_92 : decode cX8_meet 92 = .ok (.goto 4, 3) := by decide +kernel
theorem dX8_meet_95 : decode cX8_meet 95 = .ok (.iconst 0, 1) := by decide +kernel
theorem dX8_meet_96 : decode cX8_meet 96 = .ok (.invokevirtual 138, 3) := by decide +kernel
theorem dX8_meet_99 : decode cX8_meet 99 = .ok (.ifCond .ne 5, 3) := by decide +kernel
theorem dX8_meet_102 : decode cX8_meet 102 = .ok (.iconst 0, 1) := by decide +kernel
theorem dX8_meet_103 : decode cX8_meet 103 = .ok (.ireturn, 1) := by decide +kernel
theorem dX8_meet_104 : decode cX8_meet 104 = .ok (.aload_n 0, 1) := by decide +kernel
theorem dX8_meet_105 : decode cX8_meet 105 = .ok (.invokevirtual 194, 3) := by decide +kernel
theorem dX8_meet_108 : decode cX8_meet 108 = .ok (.ireturn, 1) := by decide +kernel
set_option maxRecDepth 20000 in
theorem ggX8_isRule_X8_isIn : GoodIn wsX8_isRule wsX8_isIn := goodIn_r _ [4] rfl (by decide +kernel)
set_option maxRecDepth 20000 in
theorem gX8_isRule_X8_isIn : GoodIn wsX8_isRule (va_wsS RX8 131 yX8_isIn wsX8_isIn) := goodIn_app (goodIn_of _ (by decide +kernel)) ggX8_isRule_X8_isIn
theorem dX8_isRule_0 : decode cX8_isRule 0 = .ok (.iload_n 0, 1) := by decide +kernel
theorem dX8_isRule_1 : decode cX8_isRule 1 = .ok (.iconst 0, 1) := by decide +kernel
theorem dX8_isRule_2 : decode cX8_isRule 2 = .ok (.bipush 7, 2) := by decide +kernel
theorem dX8_isRule_4 : decode cX8_isRule 4 = .ok (.invokestatic 131, 3) := by decide +kernel
theorem dX8_isRule_7 : decode cX8_isRule 7 = .ok (.ifCond .eq 37, 3) := by decide +kernel
theorem dX8_isRule_10 : decode cX8_isRule 10 = .ok (.iload_n 1, 1) := by decide +kernel
theorem dX8_isRule_11 : decode cX8_isRule 11 = .ok (.iconst 0, 1) := by decide +kernel
theorem dX8_isRule_12 : decode cX8_isRule 12 = .ok (.bipush 8, 2) := by decide +kernel
theorem dX8_isRule_14 : decode cX8_isRule 14 = .ok (.invokestatic 131, 3) := by decide +kernel
theorem dX8_isRule_17 : decode cX8_isRule 17 = .ok (.ifCond .eq 27, 3) := by decide +kernel
theorem dX8_isRule_20 : decode cX8_isRule 20 = .ok (.iload_n 2, 1) := by decide +kernel
theorem dX8_isRule_21 : decode cX8_isRule 21 = .ok (.iconst (-1), 1) := by decide +kernel
theorem dX8_isRule_22 : decode cX8_isRule 22 = .ok (.bipush 7, 2) := by decide +kernel
theorem dX8_isRule_24 : decode cX8_isRule 24 = .ok (.invokestatic 131, 3) := by decide +kernel
theorem dX8_isRule_27 : decode cX8_isRule 27 = .ok (.ifCond .eq 17, 3) := by decide +kernel
theorem dX8_isRule_30 : decode cX8_isRule 30 = .ok (.iload_n 3, 1) := by decide +kernel
theorem dX8_isRule_31 : decode cX8_isRule 31 = .ok (.iconst (-1), 1) := by decide +kernel
theorem dX8_isRule_32 : decode cX8_isRule 32 = .ok (.bipush 7, 2) := by decide +kernel
theorem dX8_isRule_34 : decode cX8_isRule 34 = .ok (.invokestatic 131, 3) := by decide +kernel
theorem dX8_isRule_37 : decode cX8_isRule 37 = .ok (.ifCond .eq 7, 3) := by decide +kernel
theorem dX8_isRule_40 : decode cX8_isRule 40 = .ok (.iconst 1, 1) := by decide +kernel
theorem dX8_isRule_41 : decode cX8_isRule 41 = .ok (.goto 4, 3) := by decide +kernel
theorem dX8_isRule_44 : decode cX8_isRule 44 = .ok (.iconst 0, 1) := by decide +kernel
theorem dX8_isRule_45 : decode cX8_isRule 45 = .ok (.ireturn, 1) := by decide +kernel
set_option maxRecDepth 20000 in
theorem ggX8_rulesOne_X8_adds : GoodIn wsX8_rulesOne wsX8_adds := goodIn_r _ [5, 6, 7, 8, 9, 10, 11, 12, 13, 14, 15, 16, 17, 18, 19, 20, 21, 22, 23, 24, 25, 26, 27, 28, 29, 30, 31, 32, 33, 34, 35, 36, 37, 38, 39, 40, 41, 42, 43, 44, 45, 46, 47, 48, 49, 50, 51, 52, 53, 54, 55] rfl (by decide +kernel)
set_option maxRecDepth 20000 in
theorem gX8_rulesOne_X8_adds : GoodIn wsX8_rulesOne (wsV RX8 180 RX8 yX8_adds wsX8_adds) := goodIn_app (goodIn_of _ (by decide +kernel)) ggX8_rulesOne_X8_adds
theorem dX8_rulesOne_0 : decode cX8_rulesOne 0 = .ok (.iconst 3, 1) := by decide +kernel
theorem dX8_rulesOne_1 : decode cX8_rulesOne 1 = .ok (.iload_n 1, 1) := by decide +kernel
theorem dX8_rulesOne_2 : decode cX8_rulesOne 2 = .ok (.imul, 1) := by decide +kernel
theorem dX8_rulesOne_3 : decode cX8_rulesOne 3 = .ok (.iload_n 2, 1) := by decide +kernel
theorem dX8_rulesOne_4 : decode cX8_rulesOne 4 = .ok (.iadd, 1) := by decide +kernel
theorem dX8_rulesOne_5 : decode cX8_rulesOne 5 = .ok (.istore 9, 2) := by decide +kernel
theorem dX8_rulesOne_7 : decode cX8_rulesOne 7 = .ok (.iconst 3, 1) := by decide +kernel
theorem dX8_rulesOne_8 : decode cX8_rulesOne 8 = .ok (.iload 6, 2) := by decide +kernel
theorem dX8_rulesOne_10 : decode cX8_rulesOne 10 = .ok (.iconst (-1), 1) := by decide +kernel
theorem dX8_rulesOne_11 : decode cX8_rulesOne 11 = .ok (.if_icmp .eq 9, 3) := by decide +kernel
theorem dX8_rulesOne_14 : decode cX8_rulesOne 14 = .ok (.iload_n 3, 1) := by decide +kernel
theorem dX8_rulesOne_15 : decode cX8_rulesOne 15 = .ok (.iload 6, 2) := by decide +kernel
theorem dX8_rulesOne_17 : decode cX8_rulesOne 17 = .ok (.if_icmp .ne 7, 3) := by decide +kernel
theorem dX8_rulesOne_20 : decode cX8_rulesOne 20 = .ok (.iconst 1, 1) := by decide +kernel
theorem dX8_rulesOne_21 : decode cX8_rulesOne 21 = .ok (.goto 4, 3) := by decide +kernel
theorem dX8_rulesOne_24 : decode cX8_rulesOne 24 = .ok (.iconst 0, 1) := by decide +kernel
theorem dX8_rulesOne_25 : decode cX8_rulesOne 25 = .ok (.imul, 1) := by decide +kernel
theorem dX8_rulesOne_26 : decode cX8_rulesOne 26 = .ok (.istore 10, 2) := by decide +kernel
theorem dX8_rulesOne_28 : decode cX8_rulesOne 28 = .ok (.iload_n 3, 1) := by decide +kernel
theorem dX8_rulesOne_29 : decode cX8_rulesOne 29 = .ok (.iload 4, 2) := by decide +kernel
theorem dX8_rulesOne_31 : decode cX8_rulesOne 31 = .ok (.if_icmp .ne 7, 3) := by decide +kernel
theorem dX8_rulesOne_34 : decode cX8_rulesOne 34 = .ok (.iload_n 1, 1) := by decide +kernel
theorem dX8_rulesOne_35 : decode cX8_rulesOne 35 = .ok (.ifCond .ne 15, 3) := by decide +kernel
theorem dX8_rulesOne_38 : decode cX8_rulesOne 38 = .ok (.aload_n 0, 1) := by decide +kernel
theorem dX8_rulesOne_39 : decode cX8_rulesOne 39 = .ok (.iload 9, 2) := by decide +kernel
theorem dX8_rulesOne_41 : decode cX8_rulesOne 41 = .ok (.iload_n 3, 1) := by decide +kernel
theorem dX8_rulesOne_42 : decode cX8_rulesOne 42 = .ok (.iload_n 3, 1) := by decide +kernel
theorem dX8_rulesOne_43 : decode cX8_rulesOne 43 = .ok (.iconst 0, 1) := by decide +kernel
theorem dX8_rulesOne_44 : decode cX8_rulesOne 44 = .ok (.iload 10, 2) := by decide +kernel
theorem dX8_rulesOne_46 : decode cX8_rulesOne 46 = .ok (.invokevirtual 180, 3) := by decide +kernel
theorem dX8_rulesOne_49 : decode cX8_rulesOne 49 = .ok (.return_, 1) := by decide +kernel
theorem dX8_rulesOne_50 : decode cX8_rulesOne 50 = .ok (.aload_n 0, 1) := by decide +kernel
theorem dX8_rulesOne_51 : decode cX8_rulesOne 51 = .ok (.iload 9, 2) := by decide +kernel
theorem dX8_rulesOne_53 : decode cX8_rulesOne 53 = .ok (.iload_n 3, 1) := by decide +kernel
theorem dX8_rulesOne_54 : decode cX8_rulesOne 54 = .ok (.iload 5, 2) := by decide +kernel
theorem dX8_rulesOne_56 : decode cX8_rulesOne 56 = .ok (.iconst 0, 1) := by decide +kernel
theorem dX8_rulesOne_57 : decode cX8_rulesOne 57 = .ok (.iload 10, 2) := by decide +kernel
theorem dX8_rulesOne_59 : decode cX8_rulesOne 59 = .ok (.iload 7, 2) := by decide +kernel
theorem dX8_rulesOne_61 : decode cX8_rulesOne 61 = .ok (.iconst (-1), 1) := by decide +kernel
theorem dX8_rulesOne_62 : decode cX8_rulesOne 62 = .ok (.if_icmp .ne 7, 3) := by decide +kernel
theorem dX8_rulesOne_65 : decode cX8_rulesOne 65 = .ok (.iconst 0, 1) := by decide +kernel
theorem dX8_rulesOne_66 : decode cX8_rulesOne 66 = .ok (.goto 4, 3) := by decide +kernel
theorem dX8_rulesOne_69 : decode cX8_rulesOne 69 = .ok (.iconst 1, 1) := by decide +kernel
theorem dX8_rulesOne_70 : decode cX8_rulesOne 70 = .ok (.iadd, 1) := by decide +kernel
theorem dX8_rulesOne_71 : decode cX8_rulesOne 71 = .ok (.invokevirtual 180, 3) := by decide +kernel
theorem dX8_rulesOne_74 : decode cX8_rulesOne 74 = .ok (.iload 7, 2) := by decide +kernel
theorem dX8_rulesOne_76 : decode cX8_rulesOne 76 = .ok (.iconst (-1), 1) := by decide +kernel
theorem dX8_rulesOne_77 : decode cX8_rulesOne 77 = .ok (.if_icmp .eq 16, 3) := by decide +kernel
theorem dX8_rulesOne_80 : decode cX8_rulesOne 80 = .ok (.aload_n 0, 1) := by decide +kernel
theorem dX8_rulesOne_81 : decode cX8_rulesOne 81 = .ok (.iload 9, 2) := by decide +kernel
theorem dX8_rulesOne_83 : decode cX8_rulesOne 83 = .ok (.iload_n 3, 1) := by decide +kernel
theorem dX8_rulesOne_84 : decode cX8_rulesOne 84 = .ok (.iload_n 3, 1) := by decide +kernel
theorem dX8_rulesOne_85 : decode cX8_rulesOne 85 = .ok (.iconst 0, 1) := by decide +kernel
theorem dX8_rulesOne_86 : decode cX8_rulesOne 86 = .ok (.iload 10, 2) := by decide +kernel
theorem dX8_rulesOne_88 : decode cX8_rulesOne 88 = .ok (.iconst 2, 1) := by decide +kernel
theorem dX8_rulesOne_89 : decode cX8_rulesOne 89 = .ok (.iadd, 1) := by decide +kernel
theorem dX8_rulesOne_90 : decode cX8_rulesOne 90 = .ok (.invokevirtual 180, 3) := by decide +kernel
theorem dX8_rulesOne_93 : decode cX8_rulesOne 93 = .ok (.iload 8, 2) := by decide +kernel
theorem dX8_rulesOne_95 : decode cX8_rulesOne 95 = .ok (.ifCond .eq 14, 3) := by decide +kernel
theorem dX8_rulesOne_98 : decode cX8_rulesOne 98 = .ok (.aload_n 0, 1) := by decide +kernel
theorem dX8_rulesOne_99 : decode cX8_rulesOne 99 = .ok (.iload 9, 2) := by decide +kernel
theorem dX8_rulesOne_101 : decode cX8_rulesOne 101 = .ok (.iload_n 3, 1) := by decide +kernel
theorem dX8_rulesOne_102 : decode cX8_rulesOne 102 = .ok (.iload_n 3, 1) := by decide +kernel
theorem dX8_rulesOne_103 : decode cX8_rulesOne 103 = .ok (.iconst 0, 1) := by decide +kernel
theorem dX8_rulesOne_104 : decode cX8_rulesOne 104 = .ok (.iload 10, 2) := by decide +kernel
theorem dX8_rulesOne_106 : decode cX8_rulesOne 106 = .ok (.invokevirtual 180, 3) := by decide +kernel
theorem dX8_rulesOne_109 : decode cX8_rulesOne 109 = .ok (.return_, 1) := by decide +kernel
set_option maxRecDepth 20000 in
theorem ggX8_rules_X8_begins : GoodIn wsX8_rules wsX8_begins := goodIn_r _ [6, 7, 1, 52, 53, 54, 55, 56, 57, 58, 59, 60, 61, 62, 63, 64, 65, 66, 67, 68, 69, 70, 71, 72, 73, 74, 75, 76, 77, 78, 79, 80, 81, 82, 83, 84, 85, 86, 87, 88, 89, 90, 91, 92, 93, 94, 95, 96, 97, 98] rfl (by decide +kernel)
set_option maxRecDepth 20000 in
theorem gX8_rules_X8_begins : GoodIn wsX8_rules (wsV RX8 188 RX8 yX8_begins wsX8_begins) := goodIn_app (goodIn_of _ (by decide +kernel)) ggX8_rules_X8_begins
set_option maxRecDepth 20000 in
theorem ggX8_rules_X8_rulesOne : GoodIn wsX8_rules wsX8_rulesOne := goodIn_r _ [11, 12, 13, 14, 5, 15, 16, 7, 17, 52, 53, 54, 55, 56, 57, 58, 59, 60, 61, 62, 63, 64, 65, 66, 67, 68, 69, 70, 71, 72, 73, 74, 75, 76, 77, 78, 79, 80, 81, 82, 83, 84, 85, 86, 87, 88, 89, 90, 91, 92, 93, 94, 95, 96, 97, 98] rfl (by decide +kernel)
set_option maxRecDepth 20000 in
theorem gX8_rules_X8_rulesOne : GoodIn wsX8_rules (wsV RX8 269 RX8 yX8_rulesOne wsX8_rulesOne) := goodIn_app (goodIn_of _ (by decide +kernel)) ggX8_rules_X8_rulesOne
set_option maxRecDepth 20000 in
theorem ggX8_rules_X8_trims : GoodIn wsX8_rules wsX8_trims := goodIn_r _ [21, 22, 23, 24, 25, 26, 16, 27, 28, 29, 30, 17, 31, 32, 1, 33, 34, 35, 5, 36, 37, 7, 38, 39, 40, 41, 42, 43, 44, 45, 46, 47, 48, 49, 50, 51, 52, 53, 54, 55, 56, 57, 58, 59, 60, 61, 62, 63, 64, 65, 66, 67, 68, 69, 70, 71, 72, 73, 74, 75, 76, 77, 78, 79, 80, 81, 82, 83, 84, 85, 86, 87, 88, 89, 90, 91, 92, 93, 94, 95, 96, 97, 98] rfl (by decide +kernel)
set_option maxRecDepth 20000 in
theorem gX8_rules_X8_trims : GoodIn wsX8_rules (wsV RX8 191 RX8 yX8_trims wsX8_trims) := goodIn_app (goodIn_of _ (by decide +kernel)) ggX8_rules_X8_trims
theorem dX8_rules_0 : decode cX8_rules 0 = .ok (.aload_n 0, 1) := by decide +kernel
theorem dX8_rules_1 : decode cX8_rules 1 = .ok (.invokevirtual 188, 3) := by decide +kernel
theorem dX8_rules_4 : decode cX8_rules 4 = .ok (.iconst 0, 1) := by decide +kernel
theorem dX8_rules_5 : decode cX8_rules 5 = .ok (.istore 6, 2) := by decide +kernel
theorem dX8_rules_7 : decode cX8_rules 7 = .ok (.iload 6, 2) := by decide +kernel
theorem dX8_rules_9 : decode cX8_rules 9 = .ok (.bipush 6, 2) := by decide +kernel
theorem dX8_rules_11 : decode cX8_rules 11 = .ok (.if_icmp .ge 101, 3) := by decide +kernel
theorem dX8_rules_14 : decode cX8_rules 14 = .ok (.aload_n 0, 1) := by decide +kernel
theorem dX8_rules_15 : decode cX8_rules 15 = .ok (.getfield 44, 3) := by decide +kernel
theorem dX8_rules_18 : decode cX8_rules 18 = .ok (.iload 6, 2) := by decide +kernel
theorem dX8_rules_20 : decode cX8_rules 20 = .ok (.iload 6, 2) := by decide +kernel
theorem dX8_rules_22 : decode cX8_rules 22 = .ok (.iconst 3, 1) := by decide +kernel
theorem dX8_rules_23 : decode cX8_rules 23 = .ok (.irem, 1) := by decide +kernel
theorem dX8_rules_24 : decode cX8_rules 24 = .ok (.iconst 1, 1) := by decide +kernel
theorem dX8_rules_25 : decode cX8_rules 25 = .ok (.if_icmp .eq 7, 3) := by decide +kernel
theorem dX8_rules_28 : decode cX8_rules 28 = .ok (.iconst 1, 1) := by decide +kernel
theorem dX8_rules_29 : decode cX8_rules 29 = .ok (.goto 4, 3) := by decide +kernel
theorem dX8_rules_32 : decode cX8_rules 32 = .ok (.iconst 0, 1) := by decide +kernel
theorem dX8_rules_33 : decode cX8_rules 33 = .ok (.bastore, 1) := by decide +kernel
theorem dX8_rules_34 : decode cX8_rules 34 = .ok (.iconst 0, 1) := by decide +kernel
theorem dX8_rules_35 : decode cX8_rules 35 = .ok (.istore 7, 2) := by decide +kernel
theorem dX8_rules_37 : decode cX8_rules 37 = .ok (.iload 7, 2) := by decide +kernel
theorem dX8_rules_39 : decode cX8_rules 39 = .ok (.bipush 8, 2) := by decide +kernel
theorem dX8_rules_41 : decode cX8_rules 41 = .ok (.if_icmp .ge 65, 3) := by decide +kernel
theorem dX8_rules_44 : decode cX8_rules 44 = .ok (.iload 6, 2) := by decide +kernel
theorem dX8_rules_46 : decode cX8_rules 46 = .ok (.iconst 3, 1) := by decide +kernel
theorem dX8_rules_47 : decode cX8_rules 47 = .ok (.irem, 1) := by decide +kernel
theorem dX8_rules_48 : decode cX8_rules 48 = .ok (.ifCond .eq 31, 3) := by decide +kernel
theorem dX8_rules_51 : decode cX8_rules 51 = .ok (.iload 7, 2) := by decide +kernel
theorem dX8_rules_53 : decode cX8_rules 53 = .ok (.iload 4, 2) := by decide +kernel
theorem dX8_rules_55 : decode cX8_rules 55 = .ok (.if_icmp .ne 7, 3) := by decide +kernel
theorem dX8_rules_58 : decode cX8_rules 58 = .ok (.iconst 1, 1) := by decide +kernel
theorem dX8_rules_59 : decode cX8_rules 59 = .ok (.goto 4, 3) := by decide +kernel
theorem dX8_rules_62 : decode cX8_rules 62 = .ok (.iconst 0, 1) := by decide +kernel
theorem dX8_rules_63 : decode cX8_rules 63 = .ok (.iload 6, 2) := by decide +kernel
theorem dX8_rules_65 : decode cX8_rules 65 = .ok (.iconst 3, 1) := by decide +kernel
theorem dX8_rules_66 : decode cX8_rules 66 = .ok (.irem, 1) := by decide +kernel
theorem dX8_rules_67 : decode cX8_rules 67 = .ok (.iconst 1, 1) := by decide +kernel
theorem dX8_rules_68 : decode cX8_rules 68 = .ok (.if_icmp .ne 7, 3) := by decide +kernel
theorem dX8_rules_71 : decode cX8_rules 71 = .ok (.iconst 1, 1) := by decide +kernel
theorem dX8_rules_72 : decode cX8_rules 72 = .ok (.goto 4, 3) := by decide +kernel
theorem dX8_rules_75 : decode cX8_rules 75 = .ok (.iconst 0, 1) := by decide +kernel
theorem dX8_rules_76 : decode cX8_rules 76 = .ok (.if_icmp .ne 24, 3) := by decide +kernel
theorem dX8_rules_79 : decode cX8_rules 79 = .ok (.aload_n 0, 1) := by decide +kernel
theorem dX8_rules_80 : decode cX8_rules 80 = .ok (.iload 6, 2) := by decide +kernel
theorem dX8_rules_82 : decode cX8_rules 82 = .ok (.iconst 3, 1) := by decide +kernel
theorem dX8_rules_83 : decode cX8_rules 83 = .ok (.idiv, 1) := by decide +kernel
theorem dX8_rules_84 : decode cX8_rules 84 = .ok (.iload 6, 2) := by decide +kernel
theorem dX8_rules_86 : decode cX8_rules 86 = .ok (.iconst 3, 1) := by decide +kernel
theorem dX8_rules_87 : decode cX8_rules 87 = .ok (.irem, 1) := by decide +kernel
theorem dX8_rules_88 : decode cX8_rules 88 = .ok (.iload 7, 2) := by decide +kernel
theorem dX8_rules_90 : decode cX8_rules 90 = .ok (.iload_n 1, 1) := by decide +kernel
theorem dX8_rules_91 : decode cX8_rules 91 = .ok (.iload_n 2, 1) := by decide +kernel
theorem dX8_rules_92 : decode cX8_rules 92 = .ok (.iload_n 3, 1) := by decide +kernel
theorem dX8_rules_93 : decode cX8_rules 93 = .ok (.iload 4, 2) := by decide +kernel
theorem dX8_rules_95 : decode cX8_rules 95 = .ok (.iload 5, 2) := by decide +kernel
theorem dX8_rules_97 : decode cX8_rules 97 = .ok (.invokevirtual 269, 3) := by decide +kernel
theorem dX8_rules_100 : decode cX8_rules 100 = .ok (.iinc 7 1, 3) := by decide +kernel
theorem dX8_rules_103 : decode cX8_rules 103 = .ok (.goto (-66), 3) := by decide +kernel
theorem dX8_rules_106 : decode cX8_rules 106 = .ok (.iinc 6 1, 3) := by decide +kernel
theorem dX8_rules_109 : decode cX8_rules 109 = .ok (.goto (-102), 3) := by decide +kernel
theorem dX8_rules_112 : decode cX8_rules 112 = .ok (.aload_n 0, 1) := by decide +kernel
theorem dX8_rules_113 : decode cX8_rules 113 = .ok (.iload_n 3, 1) := by decide +kernel
theorem dX8_rules_114 : decode cX8_rules 114 = .ok (.iconst (-1), 1) := by decide +kernel
theorem dX8_rules_115 : decode cX8_rules 115 = .ok (.if_icmp .ne 7, 3) := by decide +kernel
theorem dX8_rules_118 : decode cX8_rules 118 = .ok (.iconst 3, 1) := by decide +kernel
theorem dX8_rules_119 : decode cX8_rules 119 = .ok (.goto 4, 3) := by decide +kernel
theorem dX8_rules_122 : decode cX8_rules 122 = .ok (.iconst 0, 1) := by decide +kernel
theorem dX8_rules_123 : decode cX8_rules 123 = .ok (.invokevirtual 191, 3) := by decide +kernel
theorem dX8_rules_126 : decode cX8_rules 126 = .ok (.ireturn, 1) := by decide +kernel
set_option maxRecDepth 20000 in
theorem ggX8_rule_X8_isRule : GoodIn wsX8_rule wsX8_isRule := goodIn_r _ [4, 5, 6, 3, 7] rfl (by decide +kernel)
set_option maxRecDepth 20000 in
theorem gX8_rule_X8_isRule : GoodIn wsX8_rule (va_wsS RX8 273 yX8_isRule wsX8_isRule) := goodIn_app (goodIn_of _ (by decide +kernel)) ggX8_rule_X8_isRule
set_option maxRecDepth 20000 in
theorem ggX8_rule_X8_isThere : GoodIn wsX8_rule wsX8_isThere := goodIn_r _ [11, 12, 92, 93, 94, 95, 96, 97, 98, 99, 100, 101, 102, 103, 104, 105, 106, 107, 108, 109, 110, 111, 112, 113, 114, 115, 116, 117, 118, 119, 120, 121, 122, 123, 124, 125, 126, 127, 128, 129, 130, 131, 132, 133, 134, 135, 136, 137, 138] rfl (by decide +kernel)
set_option maxRecDepth 20000 in
theorem gX8_rule_X8_isThere : GoodIn wsX8_rule (wsV RX8 184 RX8 yX8_isThere wsX8_isThere) := goodIn_app (goodIn_of _ (by decide +kernel)) ggX8_rule_X8_isThere
set_option maxRecDepth 20000 in
theorem ggX8_rule_X8_rules : GoodIn wsX8_rule wsX8_rules := goodIn_r _ [16, 17, 18, 19, 20, 3, 21, 22, 23, 24, 25, 26, 27, 28, 29, 30, 31, 32, 33, 34, 35, 36, 37, 38, 39, 40, 41, 42, 43, 44, 45, 46, 47, 48, 49, 50, 51, 52, 53, 54, 55, 56, 57, 58, 59, 60, 61, 62, 63, 64, 65, 66, 92, 93, 94, 95, 96, 97, 98, 99, 100, 101, 102, 103, 104, 105, 106, 107, 108, 109, 110, 111, 112, 113, 114, 115, 116, 117, 118, 119, 120, 121, 122, 123, 124, 125, 126, 127, 128, 129, 130, 131, 132, 133, 134, 135, 136, 137, 138] rfl (by decide +kernel)
set_option maxRecDepth 20000 in
theorem gX8_rule_X8_rules : GoodIn wsX8_rule (wsV RX8 276 RX8 yX8_rules wsX8_rules) := goodIn_app (goodIn_of _ (by decide +kernel)) ggX8_rule_X8_rules
set_option maxRecDepth 20000 in
theorem ggX8_rule_X8_isFine : GoodIn wsX8_rule wsX8_isFine := goodIn_r _ [70, 71, 92, 93, 94, 95, 96, 97, 98, 99, 100, 101, 102, 103, 104, 105, 106, 107, 108, 109, 110, 111, 112, 113, 114, 115, 116, 117, 118, 119, 120, 121, 122, 123, 124, 125, 126, 127, 128, 129, 130, 131, 132, 133, 134, 135, 136, 137, 138] rfl (by decide +kernel)
set_option maxRecDepth 20000 in
theorem gX8_rule_X8_isFine : GoodIn wsX8_rule (wsV RX8 138 RX8 yX8_isFine wsX8_isFine) := goodIn_app (goodIn_of _ (by decide +kernel)) ggX8_rule_X8_isFine
set_option maxRecDepth 20000 in
theorem ggX8_rule_X8_keeps : GoodIn wsX8_rule wsX8_keeps := goodIn_r _ [75, 39, 12, 76, 38, 77, 47, 78, 79, 42, 80, 43, 81, 44, 82, 45, 83, 46, 84, 85, 86, 3, 87, 88, 89, 90, 91, 92, 93, 94, 95, 96, 97, 98, 99, 100, 101, 102, 103, 104, 105, 106, 107, 108, 109, 110, 111, 112, 113, 114, 115, 116, 117, 118, 119, 120, 121, 122, 123, 124, 125, 126, 127, 128, 129, 130, 131, 132, 133, 134, 135, 136, 137, 138] rfl (by decide +kernel)
set_option maxRecDepth 20000 in
theorem gX8_rule_X8_keeps : GoodIn wsX8_rule (wsV RX8 194 RX8 yX8_keeps wsX8_keeps) := goodIn_app (goodIn_of _ (by decide +kernel)) ggX8_rule_X8_keeps
theorem dX8_rule_0 : decode cX8_rule 0 = .ok (.iload_n 1, 1) := by decide +kernel
theorem dX8_rule_1 : decode cX8_rule 1 = .ok (.iload_n 2, 1) := by decide +kernel
theorem dX8_rule_2 : decode cX8_rule 2 = .ok (.iload_n 3, 1) := by decide +kernel
theorem dX8_rule_3 : decode cX8_rule 3 = .ok (.iload 4, 2) := by decide +kernel
theorem dX8_rule_5 : decode cX8_rule 5 = .ok (.invokestatic 273, 3) := by decide +kernel
theorem dX8_rule_8 : decode cX8_rule 8 = .ok (.istore 6, 2) := by decide +kernel
theorem dX8_rule_10 : decode cX8_rule 10 = .ok (.iload_n 2, 1) := by decide +kernel
theorem dX8_rule_11 : decode cX8_rule 11 = .ok (.bipush 8, 2) := by decide +kernel
theorem dX8_rule_13 : decode cX8_rule 13 = .ok (.if_icmp .ne 29, 3) := by decide +kernel
theorem dX8_rule_16 : decode cX8_rule 16 = .ok (.iload_n 3, 1) := by decide +kernel
theorem dX8_rule_17 : decode cX8_rule 17 = .ok (.iconst (-1), 1) := by decide +kernel
theorem dX8_rule_18 : decode cX8_rule 18 = .ok (.if_icmp .eq 8, 3) := by decide +kernel
theorem dX8_rule_21 : decode cX8_rule 21 = .ok (.iload_n 3, 1) := by decide +kernel
theorem dX8_rule_22 : decode cX8_rule 22 = .ok (.iload_n 1, 1) := by decide +kernel
theorem dX8_rule_23 : decode cX8_rule 23 = .ok (.if_icmp .ne 19, 3) := by decide +kernel
theorem dX8_rule_26 : decode cX8_rule 26 = .ok (.iload 4, 2) := by decide +kernel
theorem dX8_rule_28 : decode cX8_rule 28 = .ok (.iconst (-1), 1) := by decide +kernel
theorem dX8_rule_29 : decode cX8_rule 29 = .ok (.if_icmp .eq 9, 3) := by decide +kernel
theorem dX8_rule_32 : decode cX8_rule 32 = .ok (.iload 4, 2) := by decide +kernel
theorem dX8_rule_34 : decode cX8_rule 34 = .ok (.iload_n 1, 1) := by decide +kernel
theorem dX8_rule_35 : decode cX8_rule 35 = .ok (.if_icmp .ne 7, 3) := by decide +kernel
theorem dX8_rule_38 : decode cX8_rule 38 = .ok (.iconst 1, 1) := by decide +kernel
theorem dX8_rule_39 : decode cX8_rule 39 = .ok (.goto 4, 3) := by decide +kernel
theorem dX8_rule_42 : decode cX8_rule 42 = .ok (.iconst 0, 1) := by decide +kernel
theorem dX8_rule_43 : decode cX8_rule 43 = .ok (.istore 7, 2) := by decide +kernel
theorem dX8_rule_45 : decode cX8_rule 45 = .ok (.aload_n 0, 1) := by decide +kernel
theorem dX8_rule_46 : decode cX8_rule 46 = .ok (.iload 6, 2) := by decide +kernel
theorem dX8_rule_48 : decode cX8_rule 48 = .ok (.ifCond .ne 7, 3) := by decide +kernel
theorem dX8_rule_51 : decode cX8_rule 51 = .ok (.iconst 1, 1) := by decide +kernel
theorem dX8_rule_52 : decode cX8_rule 52 = .ok (.goto 34, 3) := by decide +kernel
theorem dX8_rule_55 : decode cX8_rule 55 = .ok (.aload_n 0, 1) := by decide +kernel
theorem dX8_rule_56 : decode cX8_rule 56 = .ok (.invokevirtual 184, 3) := by decide +kernel
theorem dX8_rule_59 : decode cX8_rule 59 = .ok (.ifCond .eq 22, 3) := by decide +kernel
theorem dX8_rule_62 : decode cX8_rule 62 = .ok (.iload 7, 2) := by decide +kernel
theorem dX8_rule_64 : decode cX8_rule 64 = .ok (.ifCond .ne 17, 3) := by decide +kernel
theorem dX8_rule_67 : decode cX8_rule 67 = .ok (.aload_n 0, 1) := by decide +kernel
theorem dX8_rule_68 : decode cX8_rule 68 = .ok (.iload_n 1, 1) := by decide +kernel
theorem dX8_rule_69 : decode cX8_rule 69 = .ok (.iload_n 2, 1) := by decide +kernel
theorem dX8_rule_70 : decode cX8_rule 70 = .ok (.iload_n 3, 1) := by decide +kernel
theorem dX8_rule_71 : decode cX8_rule 71 = .ok (.iload 4, 2) := by decide +kernel
theorem dX8_rule_73 : decode cX8_rule 73 = .ok (.iload 5, 2) := by decide +kernel
theorem dX8_rule_75 : decode cX8_rule 75 = .ok (.invokevirtual 276, 3) := by decide +kernel
theorem dX8_rule_78 : decode cX8_rule 78 = .ok (.ifCond .ne 7, 3) := by decide +kernel
theorem dX8_rule_81 : decode cX8_rule 81 = .ok (.iconst 2, 1) := by decide +kernel
theorem dX8_rule_82 : decode cX8_rule 82 = .ok (.goto 4, 3) := by decide +kernel
theorem dX8_rule_85 : decode cX8_rule 85 = .ok (.iconst 0, 1) := by decide +kernel
theorem dX8_rule_86 : decode cX8_rule 86 = .ok (.invokevirtual 138, 3) := by decide +kernel
theorem dX8_rule_89 : decode cX8_rule 89 = .ok (.ifCond .ne 5, 3) := by decide +kernel
theorem dX8_rule_92 : decode cX8_rule 92 = .ok (.iconst 0, 1) := by decide +kernel
theorem dX8_rule_93 : decode cX8_rule 93 = .ok (.ireturn, 1) := by decide +kernel
theorem dX8_rule_94 : decode cX8_rule 94 = .ok (.aload_n 0, 1) := by decide +kernel
theorem dX8_rule_95 : decode cX8_rule 95 = .ok (.invokevirtual 194, 3) := by decide +kernel
theorem dX8_rule_98 : decode cX8_rule 98 = .ok (.ireturn, 1) := by decide +kernel
set_option maxRecDepth 20000 in
theorem ggX8_size_X8_isMachine : GoodIn wsX8_size wsX8_isMachine := goodIn_r _ [7, 8, 9, 10, 6, 11, 17, 18, 19, 20, 21, 22, 23, 24, 25, 26, 27, 28, 29, 30, 31, 32, 33, 34, 35, 36, 37, 38, 39, 40, 41, 42, 43, 44, 45, 46, 47, 48, 49, 50, 51, 52, 53, 54, 55, 56, 57, 58, 59, 60, 61, 62, 63] rfl (by decide +kernel)
set_option maxRecDepth 20000 in
theorem gX8_size_X8_isMachine : GoodIn wsX8_size (wsV RX8 204 RX8 yX8_isMachine wsX8_isMachine) := goodIn_app (goodIn_of _ (by decide +kernel)) ggX8_size_X8_isMachine
set_option maxRecDepth 20000 in
theorem ggX8_size_X8_isFine : GoodIn wsX8_size wsX8_isFine := goodIn_r _ [15, 16, 17, 18, 19, 20, 21, 22, 23, 24, 25, 26, 27, 28, 29, 30, 31, 32, 33, 34, 35, 36, 37, 38, 39, 40, 41, 42, 43, 44, 45, 46, 47, 48, 49, 50, 51, 52, 53, 54, 55, 56, 57, 58, 59, 60, 61, 62, 63] rfl (by decide +kernel)
set_option maxRecDepth 20000 in
theorem gX8_size_X8_isFine : GoodIn wsX8_size (wsV RX8 138 RX8 yX8_isFine wsX8_isFine) := goodIn_app (goodIn_of _ (by decide +kernel)) ggX8_size_X8_isFine
theorem dX8_size_0 : decode cX8_size 0 = .ok (.aload_n 0, 1) := by decide +kernel
theorem dX8_size_1 : decode cX8_size 1 = .ok (.aload_n 0, 1) := by decide +kernel
theorem dX8_size_2 : decode cX8_size 2 = .ok (.iload_n 1, 1) := by decide +kernel
theorem dX8_size_3 : decode cX8_size 3 = .ok (.invokevirtual 204, 3) := by decide +kernel
theorem dX8_size_6 : decode cX8_size 6 = .ok (.ifCond .eq 7, 3) := by decide +kernel
theorem dX8_size_9 : decode cX8_size 9 = .ok (.iconst 0, 1) := by decide +kernel
theorem dX8_size_10 : decode cX8_size 10 = .ok (.goto 4, 3) := by decide +kernel
theorem dX8_size_13 : decode cX8_size 13 = .ok (.iconst 1, 1) := by decide +kernel
theorem dX8_size_14 : decode cX8_size 14 = .ok (.invokevirtual 138, 3) := by decide +kernel
theorem dX8_size_17 : decode cX8_size 17 = .ok (.ifCond .eq 23, 3) := by decide +kernel
theorem dX8_size_20 : decode cX8_size 20 = .ok (.sipush 1000, 3) := by decide +kernel
theorem dX8_size_23 : decode cX8_size 23 = .ok (.aload_n 0, 1) := by decide +kernel
theorem dX8_size_24 : decode cX8_size 24 = .ok (.getfield 13, 3) := by decide +kernel
theorem dX8_size_27 : decode cX8_size 27 = .ok (.iload_n 1, 1) := by decide +kernel
theorem dX8_size_28 : decode cX8_size 28 = .ok (.iaload, 1) := by decide +kernel
theorem dX8_size_29 : decode cX8_size 29 = .ok (.imul, 1) := by decide +kernel
theorem dX8_size_30 : decode cX8_size 30 = .ok (.aload_n 0, 1) := by decide +kernel
theorem dX8_size_31 : decode cX8_size 31 = .ok (.getfield 19, 3) := by decide +kernel
theorem dX8_size_34 : decode cX8_size 34 = .ok (.iload_n 1, 1) := by decide +kernel
theorem dX8_size_35 : decode cX8_size 35 = .ok (.iaload, 1) := by decide +kernel
theorem dX8_size_36 : decode cX8_size 36 = .ok (.iadd, 1) := by decide +kernel
theorem dX8_size_37 : decode cX8_size 37 = .ok (.goto 4, 3) := by decide +kernel
theorem dX8_size_40 : decode cX8_size 40 = .ok (.iconst 0, 1) := by decide +kernel
theorem dX8_size_41 : decode cX8_size 41 = .ok (.ireturn, 1) := by decide +kernel
set_option maxRecDepth 20000 in
theorem ggX8_isEnd_X8_isMachine : GoodIn wsX8_isEnd wsX8_isMachine := goodIn_r _ [6, 7, 8, 9, 5, 10, 21, 22, 23, 24, 25, 26, 27, 28, 29, 30, 31, 32, 33, 34, 35, 36, 37, 38, 39, 40, 41, 42, 43, 44, 45, 46, 47, 48, 49, 50, 51, 52, 53, 54, 55, 56, 57, 58, 59, 60, 61, 62, 63, 64, 65, 66, 67] rfl (by decide +kernel)
set_option maxRecDepth 20000 in
theorem gX8_isEnd_X8_isMachine : GoodIn wsX8_isEnd (wsV RX8 204 RX8 yX8_isMachine wsX8_isMachine) := goodIn_app (goodIn_of _ (by decide +kernel)) ggX8_isEnd_X8_isMachine
set_option maxRecDepth 20000 in
theorem ggX8_isEnd_X8_isIn : GoodIn wsX8_isEnd wsX8_isIn := goodIn_r _ [10] rfl (by decide +kernel)
set_option maxRecDepth 20000 in
theorem gX8_isEnd_X8_isIn : GoodIn wsX8_isEnd (va_wsS RX8 131 yX8_isIn wsX8_isIn) := goodIn_app (goodIn_of _ (by decide +kernel)) ggX8_isEnd_X8_isIn
set_option maxRecDepth 20000 in
theorem ggX8_isEnd_X8_isFine : GoodIn wsX8_isEnd wsX8_isFine := goodIn_r _ [14, 15, 21, 22, 23, 24, 25, 26, 27, 28, 29, 30, 31, 32, 33, 34, 35, 36, 37, 38, 39, 40, 41, 42, 43, 44, 45, 46, 47, 48, 49, 50, 51, 52, 53, 54, 55, 56, 57, 58, 59, 60, 61, 62, 63, 64, 65, 66, 67] rfl (by decide +kernel)
set_option maxRecDepth 20000 in
theorem gX8_isEnd_X8_isFine : GoodIn wsX8_isEnd (wsV RX8 138 RX8 yX8_isFine wsX8_isFine) := goodIn_app (goodIn_of _ (by decide +kernel)) ggX8_isEnd_X8_isFine
set_option maxRecDepth 20000 in
theorem ggX8_isEnd_X8_isEndOf : GoodIn wsX8_isEnd wsX8_isEndOf := goodIn_r _ [19, 20, 21, 22, 23, 24, 25, 26, 27, 28, 29, 30, 31, 32, 33, 34, 35, 36, 37, 38, 39, 40, 41, 42, 43, 44, 45, 46, 47, 48, 49, 50, 51, 52, 53, 54, 55, 56, 57, 58, 59, 60, 61, 62, 63, 64, 65, 66, 67] rfl (by decide +kernel)
set_option maxRecDepth 20000 in
theorem gX8_isEnd_X8_isEndOf : GoodIn wsX8_isEnd (wsV RX8 201 RX8 yX8_isEndOf wsX8_isEndOf) := goodIn_app (goodIn_of _ (by decide +kernel)) ggX8_isEnd_X8_isEndOf
theorem dX8_isEnd_0 : decode cX8_isEnd 0 = .ok (.aload_n 0, 1) := by decide +kernel
theorem dX8_isEnd_1 : decode cX8_isEnd 1 = .ok (.aload_n 0, 1) := by decide +kernel
theorem dX8_isEnd_2 : decode cX8_isEnd 2 = .ok (.iload_n 1, 1) := by decide +kernel
theorem dX8_isEnd_3 : decode cX8_isEnd 3 = .ok (.invokevirtual 204, 3) := by decide +kernel
theorem dX8_isEnd_6 : decode cX8_isEnd 6 = .ok (.ifCond .eq 23, 3) := by decide +kernel
theorem dX8_isEnd_9 : decode cX8_isEnd 9 = .ok (.iload_n 2, 1) := by decide +kernel
theorem dX8_isEnd_10 : decode cX8_isEnd 10 = .ok (.iconst 0, 1) := by decide +kernel
theorem dX8_isEnd_11 : decode cX8_isEnd 11 = .ok (.aload_n 0, 1) := by decide +kernel
theorem dX8_isEnd_12 : decode cX8_isEnd 12 = .ok (.getfield 13, 3) := by decide +kernel
theorem dX8_isEnd_15 : decode cX8_isEnd 15 = .ok (.iload_n 1, 1) := by decide +kernel
theorem dX8_isEnd_16 : decode cX8_isEnd 16 = .ok (.iaload, 1) := by decide +kernel
theorem dX8_isEnd_17 : decode cX8_isEnd 17 = .ok (.iconst 1, 1) := by decide +kernel
theorem dX8_isEnd_18 : decode cX8_isEnd 18 = .ok (.isub, 1) := by decide +kernel
theorem dX8_isEnd_19 : decode cX8_isEnd 19 = .ok (.invokestatic 131, 3) := by decide +kernel
theorem dX8_isEnd_22 : decode cX8_isEnd 22 = .ok (.ifCond .eq 7, 3) := by decide +kernel
theorem dX8_isEnd_25 : decode cX8_isEnd 25 = .ok (.iconst 0, 1) := by decide +kernel
theorem dX8_isEnd_26 : decode cX8_isEnd 26 = .ok (.goto 4, 3) := by decide +kernel
theorem dX8_isEnd_29 : decode cX8_isEnd 29 = .ok (.iconst 1, 1) := by decide +kernel
theorem dX8_isEnd_30 : decode cX8_isEnd 30 = .ok (.invokevirtual 138, 3) := by decide +kernel
theorem dX8_isEnd_33 : decode cX8_isEnd 33 = .ok (.ifCond .eq 16, 3) := by decide +kernel
theorem dX8_isEnd_36 : decode cX8_isEnd 36 = .ok (.aload_n 0, 1) := by decide +kernel
theorem dX8_isEnd_37 : decode cX8_isEnd 37 = .ok (.iload_n 1, 1) := by decide +kernel
theorem dX8_isEnd_38 : decode cX8_isEnd 38 = .ok (.iload_n 2, 1) := by decide +kernel
theorem dX8_isEnd_39 : decode cX8_isEnd 39 = .ok (.invokevirtual 201, 3) := by decide +kernel
theorem dX8_isEnd_42 : decode cX8_isEnd 42 = .ok (.ifCond .eq 7, 3) := by decide +kernel
theorem dX8_isEnd_45 : decode cX8_isEnd 45 = .ok (.iconst 1, 1) := by decide +kernel
theorem dX8_isEnd_46 : decode cX8_isEnd 46 = .ok (.goto 4, 3) := by decide +kernel
theorem dX8_isEnd_49 : decode cX8_isEnd 49 = .ok (.iconst 0, 1) := by decide +kernel
theorem dX8_isEnd_50 : decode cX8_isEnd 50 = .ok (.ireturn, 1) := by decide +kernel
set_option maxRecDepth 20000 in
theorem ggX8_arc_X8_isMachine : GoodIn wsX8_arc wsX8_isMachine := goodIn_r _ [11, 12, 13, 14, 10, 15, 21, 22, 23, 24, 25, 26, 27, 28, 29, 30, 31, 32, 33, 34, 35, 36, 37, 38, 39, 40, 41, 42, 43, 44, 45, 46, 47, 48, 49, 50, 51, 52, 53, 54, 55, 56, 57, 58, 59, 60, 61, 62, 63, 64, 65, 66, 67] rfl (by decide +kernel)
set_option maxRecDepth 20000 in
theorem gX8_arc_X8_isMachine : GoodIn wsX8_arc (wsV RX8 204 RX8 yX8_isMachine wsX8_isMachine) := goodIn_app (goodIn_of _ (by decide +kernel)) ggX8_arc_X8_isMachine
set_option maxRecDepth 20000 in
theorem ggX8_arc_X8_isIn : GoodIn wsX8_arc wsX8_isIn := goodIn_r _ [15] rfl (by decide +kernel)
set_option maxRecDepth 20000 in
theorem gX8_arc_X8_isIn : GoodIn wsX8_arc (va_wsS RX8 131 yX8_isIn wsX8_isIn) := goodIn_app (goodIn_of _ (by decide +kernel)) ggX8_arc_X8_isIn
set_option maxRecDepth 20000 in
theorem ggX8_arc_X8_isFine : GoodIn wsX8_arc wsX8_isFine := goodIn_r _ [19, 20, 21, 22, 23, 24, 25, 26, 27, 28, 29, 30, 31, 32, 33, 34, 35, 36, 37, 38, 39, 40, 41, 42, 43, 44, 45, 46, 47, 48, 49, 50, 51, 52, 53, 54, 55, 56, 57, 58, 59, 60, 61, 62, 63, 64, 65, 66, 67] rfl (by decide +kernel)
set_option maxRecDepth 20000 in
theorem gX8_arc_X8_isFine : GoodIn wsX8_arc (wsV RX8 138 RX8 yX8_isFine wsX8_isFine) := goodIn_app (goodIn_of _ (by decide +kernel)) ggX8_arc_X8_isFine
theorem dX8_arc_0 : decode cX8_arc 0 = .ok (.aload_n 0, 1) := by decide +kernel
theorem dX8_arc_1 : decode cX8_arc 1 = .ok (.iload_n 1, 1) := by decide +kernel
theorem dX8_arc_2 : decode cX8_arc 2 = .ok (.invokevirtual 204, 3) := by decide +kernel
theorem dX8_arc_5 : decode cX8_arc 5 = .ok (.ifCond .eq 23, 3) := by decide +kernel
theorem dX8_arc_8 : decode cX8_arc 8 = .ok (.iload_n 2, 1) := by decide +kernel
theorem dX8_arc_9 : decode cX8_arc 9 = .ok (.iconst 0, 1) := by decide +kernel
theorem dX8_arc_10 : decode cX8_arc 10 = .ok (.aload_n 0, 1) := by decide +kernel
theorem dX8_arc_11 : decode cX8_arc 11 = .ok (.getfield 19, 3) := by decide +kernel
theorem dX8_arc_14 : decode cX8_arc 14 = .ok (.iload_n 1, 1) := by decide +kernel
theorem dX8_arc_15 : decode cX8_arc 15 = .ok (.iaload, 1) := by decide +kernel
theorem dX8_arc_16 : decode cX8_arc 16 = .ok (.iconst 1, 1) := by decide +kernel
theorem dX8_arc_17 : decode cX8_arc 17 = .ok (.isub, 1) := by decide +kernel
theorem dX8_arc_18 : decode cX8_arc 18 = .ok (.invokestatic 131, 3) := by decide +kernel
theorem dX8_arc_21 : decode cX8_arc 21 = .ok (.ifCond .eq 7, 3) := by decide +kernel
theorem dX8_arc_24 : decode cX8_arc 24 = .ok (.iconst 1, 1) := by decide +kernel
theorem dX8_arc_25 : decode cX8_arc 25 = .ok (.goto 4, 3) := by decide +kernel
theorem dX8_arc_28 : decode cX8_arc 28 = .ok (.iconst 0, 1) := by decide +kernel
theorem dX8_arc_29 : decode cX8_arc 29 = .ok (.istore 4, 2) := by decide +kernel
theorem dX8_arc_31 : decode cX8_arc 31 = .ok (.aload_n 0, 1) := by decide +kernel
theorem dX8_arc_32 : decode cX8_arc 32 = .ok (.iload 4, 2) := by decide +kernel
theorem dX8_arc_34 : decode cX8_arc 34 = .ok (.ifCond .ne 7, 3) := by decide +kernel
theorem dX8_arc_37 : decode cX8_arc 37 = .ok (.iconst 1, 1) := by decide +kernel
theorem dX8_arc_38 : decode cX8_arc 38 = .ok (.goto 17, 3) := by decide +kernel
theorem dX8_arc_41 : decode cX8_arc 41 = .ok (.iload_n 3, 1) := by decide +kernel
theorem dX8_arc_42 : decode cX8_arc 42 = .ok (.iconst 0, 1) := by decide +kernel
theorem dX8_arc_43 : decode cX8_arc 43 = .ok (.iconst 4, 1) := by decide +kernel
theorem dX8_arc_44 : decode cX8_arc 44 = .ok (.invokestatic 131, 3) := by decide +kernel
theorem dX8_arc_47 : decode cX8_arc 47 = .ok (.ifCond .ne 7, 3) := by decide +kernel
theorem dX8_arc_50 : decode cX8_arc 50 = .ok (.iconst 2, 1) := by decide +kernel
theorem dX8_arc_51 : decode cX8_arc 51 = .ok (.goto 4, 3) := by decide +kernel
theorem dX8_arc_54 : decode cX8_arc 54 = .ok (.iconst 0, 1) := by decide +kernel
theorem dX8_arc_55 : decode cX8_arc 55 = .ok (.invokevirtual 138, 3) := by decide +kernel
theorem dX8_arc_58 : decode cX8_arc 58 = .ok (.ifCond .ne 5, 3) := by decide +kernel
theorem dX8_arc_61 : decode cX8_arc 61 = .ok (.iconst 0, 1) := by decide +kernel
theorem dX8_arc_62 : decode cX8_arc 62 = .ok (.ireturn, 1) := by decide +kernel
theorem dX8_arc_63 : decode cX8_arc 63 = .ok (.sipush 160, 3) := by decide +kernel
theorem dX8_arc_66 : decode cX8_arc 66 = .ok (.iload_n 1, 1) := by decide +kernel
theorem dX8_arc_67 : decode cX8_arc 67 = .ok (.imul, 1) := by decide +kernel
theorem dX8_arc_68 : decode cX8_arc 68 = .ok (.iload_n 2, 1) := by decide +kernel
theorem dX8_arc_69 : decode cX8_arc 69 = .ok (.iadd, 1) := by decide +kernel
theorem dX8_arc_70 : decode cX8_arc 70 = .ok (.istore 5, 2) := by decide +kernel
theorem dX8_arc_72 : decode cX8_arc 72 = .ok (.iload_n 3, 1) := by decide +kernel
theorem dX8_arc_73 : decode cX8_arc 73 = .ok (.ifCond .ne 13, 3) := by decide +kernel
theorem dX8_arc_76 : decode cX8_arc 76 = .ok (.aload_n 0, 1) := by decide +kernel
theorem dX8_arc_77 : decode cX8_arc 77 = .ok (.getfield 22, 3) := by decide +kernel
theorem dX8_arc_80 : decode cX8_arc 80 = .ok (.iload 5, 2) := by decide +kernel
theorem dX8_arc_82 : decode cX8_arc 82 = .ok (.iaload, 1) := by decide +kernel
theorem dX8_arc_83 : decode cX8_arc 83 = .ok (.goto 55, 3) := by decide +kernel
theorem dX8_arc_86 : decode cX8_arc 86 = .ok (.iload_n 3, 1) := by decide +kernel
theorem dX8_arc_87 : decode cX8_arc 87 = .ok (.iconst 1, 1) := by decide +kernel
theorem dX8_arc_88 : decode cX8_arc 88 = .ok (.if_icmp .ne 13, 3) := by decide +kernel
theorem dX8_arc_91 : decode cX8_arc 91 = .ok (.aload_n 0, 1) := by decide +kernel
theorem dX8_arc_92 : decode cX8_arc 92 = .ok (.getfield 25, 3) := by decide +kernel
theorem dX8_arc_95 : decode cX8_arc 95 = .ok (.iload 5, 2) := by decide +kernel
theorem dX8_arc_97 : decode cX8_arc 97 = .ok (.iaload, 1) := by decide +kernel
theorem dX8_arc_98 : decode cX8_arc 98 = .ok (.goto 40, 3) := by decide +kernel
theorem dX8_arc_101 : decode cX8_arc 101 = .ok (.iload_n 3, 1) := by decide +kernel
theorem dX8_arc_102 : decode cX8_arc 102 = .ok (.iconst 2, 1) := by decide +kernel
theorem dX8_arc_103 : decode cX8_arc 103 = .ok (.if_icmp .ne 13, 3) := by decide +kernel
theorem dX8_arc_106 : decode cX8_arc 106 = .ok (.aload_n 0, 1) := by decide +kernel
theorem dX8_arc_107 : decode cX8_arc 107 = .ok (.getfield 28, 3) := by decide +kernel
theorem dX8_arc_110 : decode cX8_arc 110 = .ok (.iload 5, 2) := by decide +kernel
theorem dX8_arc_112 : decode cX8_arc 112 = .ok (.iaload, 1) := by decide +kernel
theorem dX8_arc_113 : decode cX8_arc 113 = .ok (.goto 25, 3) := by decide +kernel
theorem dX8_arc_116 : decode cX8_arc 116 = .ok (.iload_n 3, 1) := by decide +kernel
theorem dX8_arc_117 : decode cX8_arc 117 = .ok (.iconst 3, 1) := by decide +kernel
theorem dX8_arc_118 : decode cX8_arc 118 = .ok (.if_icmp .ne 13, 3) := by decide +kernel
theorem dX8_arc_121 : decode cX8_arc 121 = .ok (.aload_n 0, 1) := by decide +kernel
theorem dX8_arc_122 : decode cX8_arc 122 = .ok (.getfield 31, 3) := by decide +kernel
theorem dX8_arc_125 : decode cX8_arc 125 = .ok (.iload 5, 2) := by decide +kernel
theorem dX8_arc_127 : decode cX8_arc 127 = .ok (.iaload, 1) := by decide +kernel
theorem dX8_arc_128 : decode cX8_arc 128 = .ok (.goto 10, 3) := by decide +kernel
theorem dX8_arc_131 : decode cX8_arc 131 = .ok (.aload_n 0, 1) := by decide +kernel
theorem dX8_arc_132 : decode cX8_arc 132 = .ok (.getfield 34, 3) := by decide +kernel
theorem dX8_arc_135 : decode cX8_arc 135 = .ok (.iload 5, 2) := by decide +kernel
theorem dX8_arc_137 : decode cX8_arc 137 = .ok (.iaload, 1) := by decide +kernel
theorem dX8_arc_138 : decode cX8_arc 138 = .ok (.ireturn, 1) := by decide +kernel
set_option maxRecDepth 20000 in
theorem ggX8_isPlain_X8_isMachine : GoodIn wsX8_isPlain wsX8_isMachine := goodIn_r _ [5, 6, 7, 8, 4, 9, 23, 24, 25, 26, 27, 28, 29, 30, 31, 32, 33, 34, 35, 36, 37, 38, 39, 40, 41, 42, 43, 44, 45, 46, 47, 48, 49, 50, 51, 52, 53, 54, 55, 56, 57, 58, 59, 60, 61, 62, 63, 64, 65, 66, 67, 68, 69] rfl (by decide +kernel)
set_option maxRecDepth 20000 in
theorem gX8_isPlain_X8_isMachine : GoodIn wsX8_isPlain (wsV RX8 204 RX8 yX8_isMachine wsX8_isMachine) := goodIn_app (goodIn_of _ (by decide +kernel)) ggX8_isPlain_X8_isMachine
set_option maxRecDepth 20000 in
theorem ggX8_isPlain_X8_isFine : GoodIn wsX8_isPlain wsX8_isFine := goodIn_r _ [13, 14, 23, 24, 25, 26, 27, 28, 29, 30, 31, 32, 33, 34, 35, 36, 37, 38, 39, 40, 41, 42, 43, 44, 45, 46, 47, 48, 49, 50, 51, 52, 53, 54, 55, 56, 57, 58, 59, 60, 61, 62, 63, 64, 65, 66, 67, 68, 69] rfl (by decide +kernel)
set_option maxRecDepth 20000 in
theorem gX8_isPlain_X8_isFine : GoodIn wsX8_isPlain (wsV RX8 138 RX8 yX8_isFine wsX8_isFine) := goodIn_app (goodIn_of _ (by decide +kernel)) ggX8_isPlain_X8_isFine
set_option maxRecDepth 20000 in
theorem ggX8_isPlain_X8_isPlainOf : GoodIn wsX8_isPlain wsX8_isPlainOf := goodIn_r _ [18, 19, 20, 21, 22, 23, 24, 25, 26, 27, 28, 29, 30, 31, 32, 33, 34, 35, 36, 37, 38, 39, 40, 41, 42, 43, 44, 45, 46, 47, 48, 49, 50, 51, 52, 53, 54, 55, 56, 57, 58, 59, 60, 61, 62, 63, 64, 65, 66, 67, 68, 69] rfl (by decide +kernel)
set_option maxRecDepth 20000 in
theorem gX8_isPlain_X8_isPlainOf : GoodIn wsX8_isPlain (wsV RX8 263 RX8 yX8_isPlainOf wsX8_isPlainOf) := goodIn_app (goodIn_of _ (by decide +kernel)) ggX8_isPlain_X8_isPlainOf
theorem dX8_isPlain_0 : decode cX8_isPlain 0 = .ok (.aload_n 0, 1) := by decide +kernel
theorem dX8_isPlain_1 : decode cX8_isPlain 1 = .ok (.aload_n 0, 1) := by decide +kernel
theorem dX8_isPlain_2 : decode cX8_isPlain 2 = .ok (.iload_n 1, 1) := by decide +kernel
theorem dX8_isPlain_3 : decode cX8_isPlain 3 = .ok (.invokevirtual 204, 3) := by decide +kernel
theorem dX8_isPlain_6 : decode cX8_isPlain 6 = .ok (.ifCond .eq 7, 3) := by decide +kernel
theorem dX8_isPlain_9 : decode cX8_isPlain 9 = .ok (.iconst 0, 1) := by decide +kernel
theorem dX8_isPlain_10 : decode cX8_isPlain 10 = .ok (.goto 4, 3) := by decide +kernel
theorem dX8_isPlain_13 : decode cX8_isPlain 13 = .ok (.iconst 1, 1) := by decide +kernel
theorem dX8_isPlain_14 : decode cX8_isPlain 14 = .ok (.invokevirtual 138, 3) := by decide +kernel
theorem dX8_isPlain_17 : decode cX8_isPlain 17 = .ok (.ifCond .eq 15, 3) := by decide +kernel
theorem dX8_isPlain_20 : decode cX8_isPlain 20 = .ok (.aload_n 0, 1) := by decide +kernel
theorem dX8_isPlain_21 : decode cX8_isPlain 21 = .ok (.iload_n 1, 1) := by decide +kernel
theorem dX8_isPlain_22 : decode cX8_isPlain 22 = .ok (.invokevirtual 263, 3) := by decide +kernel
theorem dX8_isPlain_25 : decode cX8_isPlain 25 = .ok (.ifCond .eq 7, 3) := by decide +kernel
theorem dX8_isPlain_28 : decode cX8_isPlain 28 = .ok (.iconst 1, 1) := by decide +kernel
theorem dX8_isPlain_29 : decode cX8_isPlain 29 = .ok (.goto 4, 3) := by decide +kernel
theorem dX8_isPlain_32 : decode cX8_isPlain 32 = .ok (.iconst 0, 1) := by decide +kernel
theorem dX8_isPlain_33 : decode cX8_isPlain 33 = .ok (.ireturn, 1) := by decide +kernel
theorem dX8_inOf_0 : decode cX8_inOf 0 = .ok (.iload_n 2, 1) := by decide +kernel
theorem dX8_inOf_1 : decode cX8_inOf 1 = .ok (.ifCond .eq 12, 3) := by decide +kernel
theorem dX8_inOf_4 : decode cX8_inOf 4 = .ok (.aload_n 0, 1) := by decide +kernel
theorem dX8_inOf_5 : decode cX8_inOf 5 = .ok (.getfield 28, 3) := by decide +kernel
theorem dX8_inOf_8 : decode cX8_inOf 8 = .ok (.iload_n 1, 1) := by decide +kernel
theorem dX8_inOf_9 : decode cX8_inOf 9 = .ok (.iaload, 1) := by decide +kernel
theorem dX8_inOf_10 : decode cX8_inOf 10 = .ok (.goto 9, 3) := by decide +kernel
theorem dX8_inOf_13 : decode cX8_inOf 13 = .ok (.aload_n 0, 1) := by decide +kernel
theorem dX8_inOf_14 : decode cX8_inOf 14 = .ok (.getfield 25, 3) := by decide +kernel
theorem dX8_inOf_17 : decode cX8_inOf 17 = .ok (.iload_n 1, 1) := by decide +kernel
theorem dX8_inOf_18 : decode cX8_inOf 18 = .ok (.iaload, 1) := by decide +kernel
theorem dX8_inOf_19 : decode cX8_inOf 19 = .ok (.ireturn, 1) := by decide +kernel
theorem dX8_outOf_0 : decode cX8_outOf 0 = .ok (.iload_n 2, 1) := by decide +kernel
theorem dX8_outOf_1 : decode cX8_outOf 1 = .ok (.ifCond .eq 12, 3) := by decide +kernel
theorem dX8_outOf_4 : decode cX8_outOf 4 = .ok (.aload_n 0, 1) := by decide +kernel
theorem dX8_outOf_5 : decode cX8_outOf 5 = .ok (.getfield 25, 3) := by decide +kernel
theorem dX8_outOf_8 : decode cX8_outOf 8 = .ok (.iload_n 1, 1) := by decide +kernel
theorem dX8_outOf_9 : decode cX8_outOf 9 = .ok (.iaload, 1) := by decide +kernel
theorem dX8_outOf_10 : decode cX8_outOf 10 = .ok (.goto 9, 3) := by decide +kernel
theorem dX8_outOf_13 : decode cX8_outOf 13 = .ok (.aload_n 0, 1) := by decide +kernel
theorem dX8_outOf_14 : decode cX8_outOf 14 = .ok (.getfield 28, 3) := by decide +kernel
theorem dX8_outOf_17 : decode cX8_outOf 17 = .ok (.iload_n 1, 1) := by decide +kernel
theorem dX8_outOf_18 : decode cX8_outOf 18 = .ok (.iaload, 1) := by decide +kernel
theorem dX8_outOf_19 : decode cX8_outOf 19 = .ok (.ireturn, 1) := by decide +kernel
set_option maxRecDepth 20000 in
theorem ggX8_behind_X8_inOf : GoodIn wsX8_behind wsX8_inOf := goodIn_r _ [7, 8, 9, 10, 11, 12, 13, 14, 15, 16, 17, 18, 19, 20, 21, 22, 23, 24, 25, 26, 27, 28, 29, 30, 31, 32, 33, 34, 35, 36, 37, 38, 39, 40, 41, 42, 43, 44, 45, 46, 47, 48, 49, 50, 51, 52, 53, 54, 55, 56] rfl (by decide +kernel)
set_option maxRecDepth 20000 in
theorem gX8_behind_X8_inOf : GoodIn wsX8_behind (wsV RX8 280 RX8 yX8_inOf wsX8_inOf) := goodIn_app (goodIn_of _ (by decide +kernel)) ggX8_behind_X8_inOf
theorem dX8_behind_0 : decode cX8_behind 0 = .ok (.aload_n 0, 1) := by decide +kernel
theorem dX8_behind_1 : decode cX8_behind 1 = .ok (.iload_n 1, 1) := by decide +kernel
theorem dX8_behind_2 : decode cX8_behind 2 = .ok (.iload_n 3, 1) := by decide +kernel
theorem dX8_behind_3 : decode cX8_behind 3 = .ok (.invokevirtual 280, 3) := by decide +kernel
theorem dX8_behind_6 : decode cX8_behind 6 = .ok (.istore 4, 2) := by decide +kernel
theorem dX8_behind_8 : decode cX8_behind 8 = .ok (.iload 4, 2) := by decide +kernel
theorem dX8_behind_10 : decode cX8_behind 10 = .ok (.bipush 8, 2) := by decide +kernel
theorem dX8_behind_12 : decode cX8_behind 12 = .ok (.if_icmp .ne 7, 3) := by decide +kernel
theorem dX8_behind_15 : decode cX8_behind 15 = .ok (.iload_n 2, 1) := by decide +kernel
theorem dX8_behind_16 : decode cX8_behind 16 = .ok (.goto 29, 3) := by decide +kernel
theorem dX8_behind_19 : decode cX8_behind 19 = .ok (.iload_n 2, 1) := by decide +kernel
theorem dX8_behind_20 : decode cX8_behind 20 = .ok (.aload_n 0, 1) := by decide +kernel
theorem dX8_behind_21 : decode cX8_behind 21 = .ok (.getfield 135, 3) := by decide +kernel
theorem dX8_behind_24 : decode cX8_behind 24 = .ok (.if_icmp .ge 20, 3) := by decide +kernel
theorem dX8_behind_27 : decode cX8_behind 27 = .ok (.aload_n 0, 1) := by decide +kernel
theorem dX8_behind_28 : decode cX8_behind 28 = .ok (.getfield 7, 3) := by decide +kernel
theorem dX8_behind_31 : decode cX8_behind 31 = .ok (.iload_n 2, 1) := by decide +kernel
theorem dX8_behind_32 : decode cX8_behind 32 = .ok (.iaload, 1) := by decide +kernel
theorem dX8_behind_33 : decode cX8_behind 33 = .ok (.iload 4, 2) := by decide +kernel
theorem dX8_behind_35 : decode cX8_behind 35 = .ok (.if_icmp .ne 9, 3) := by decide +kernel
theorem dX8_behind_38 : decode cX8_behind 38 = .ok (.iload_n 2, 1) := by decide +kernel
theorem dX8_behind_39 : decode cX8_behind 39 = .ok (.iconst 1, 1) := by decide +kernel
theorem dX8_behind_40 : decode cX8_behind 40 = .ok (.iadd, 1) := by decide +kernel
theorem dX8_behind_41 : decode cX8_behind 41 = .ok (.goto 4, 3) := by decide +kernel
theorem dX8_behind_44 : decode cX8_behind 44 = .ok (.iconst (-1), 1) := by decide +kernel
theorem dX8_behind_45 : decode cX8_behind 45 = .ok (.ireturn, 1) := by decide +kernel
set_option maxRecDepth 20000 in
theorem ggX8_rests_X8_isEndOf : GoodIn wsX8_rests wsX8_isEndOf := goodIn_r _ [12, 13, 25, 26, 27, 28, 29, 30, 31, 32, 33, 34, 35, 36, 37, 38, 39, 40, 41, 42, 43, 44, 45, 46, 47, 48, 49, 50, 51, 52, 53, 54, 55, 56, 57, 58, 59, 60, 61, 62, 63, 64, 65, 66, 67, 68, 69, 70, 71] rfl (by decide +kernel)
set_option maxRecDepth 20000 in
theorem gX8_rests_X8_isEndOf : GoodIn wsX8_rests (wsV RX8 201 RX8 yX8_isEndOf wsX8_isEndOf) := goodIn_app (goodIn_of _ (by decide +kernel)) ggX8_rests_X8_isEndOf
set_option maxRecDepth 20000 in
theorem ggX8_rests_X8_behind : GoodIn wsX8_rests wsX8_behind := goodIn_r _ [17, 2, 18, 19, 20, 21, 11, 22, 23, 24, 25, 26, 27, 28, 29, 30, 31, 32, 33, 34, 35, 36, 37, 38, 39, 40, 41, 42, 43, 44, 45, 46, 47, 48, 49, 50, 51, 52, 53, 54, 55, 56, 57, 58, 59, 60, 61, 62, 63, 64, 65, 66, 67, 68, 69, 70, 71] rfl (by decide +kernel)
set_option maxRecDepth 20000 in
theorem gX8_rests_X8_behind : GoodIn wsX8_rests (wsV RX8 285 RX8 yX8_behind wsX8_behind) := goodIn_app (goodIn_of _ (by decide +kernel)) ggX8_rests_X8_behind
theorem dX8_rests_0 : decode cX8_rests 0 = .ok (.iconst 0, 1) := by decide +kernel
theorem dX8_rests_1 : decode cX8_rests 1 = .ok (.istore_n 3, 1) := by decide +kernel
theorem dX8_rests_2 : decode cX8_rests 2 = .ok (.iload_n 3, 1) := by decide +kernel
theorem dX8_rests_3 : decode cX8_rests 3 = .ok (.sipush 288, 3) := by decide +kernel
theorem dX8_rests_6 : decode cX8_rests 6 = .ok (.if_icmp .ge 45, 3) := by decide +kernel
theorem dX8_rests_9 : decode cX8_rests 9 = .ok (.aload_n 0, 1) := by decide +kernel
theorem dX8_rests_10 : decode cX8_rests 10 = .ok (.getfield 96, 3) := by decide +kernel
theorem dX8_rests_13 : decode cX8_rests 13 = .ok (.iload_n 3, 1) := by decide +kernel
theorem dX8_rests_14 : decode cX8_rests 14 = .ok (.iload_n 3, 1) := by decide +kernel
theorem dX8_rests_15 : decode cX8_rests 15 = .ok (.bipush 32, 2) := by decide +kernel
theorem dX8_rests_17 : decode cX8_rests 17 = .ok (.idiv, 1) := by decide +kernel
theorem dX8_rests_18 : decode cX8_rests 18 = .ok (.aload_n 0, 1) := by decide +kernel
theorem dX8_rests_19 : decode cX8_rests 19 = .ok (.getfield 135, 3) := by decide +kernel
theorem dX8_rests_22 : decode cX8_rests 22 = .ok (.if_icmp .ne 19, 3) := by decide +kernel
theorem dX8_rests_25 : decode cX8_rests 25 = .ok (.aload_n 0, 1) := by decide +kernel
theorem dX8_rests_26 : decode cX8_rests 26 = .ok (.iload_n 1, 1) := by decide +kernel
theorem dX8_rests_27 : decode cX8_rests 27 = .ok (.iload_n 3, 1) := by decide +kernel
theorem dX8_rests_28 : decode cX8_rests 28 = .ok (.bipush 32, 2) := by decide +kernel
theorem dX8_rests_30 : decode cX8_rests 30 = .ok (.irem, 1) := by decide +kernel
theorem dX8_rests_31 : decode cX8_rests 31 = .ok (.invokevirtual 201, 3) := by decide +kernel
theorem dX8_rests_34 : decode cX8_rests 34 = .ok (.ifCond .eq 7, 3) := by decide +kernel
theorem dX8_rests_37 : decode cX8_rests 37 = .ok (.iconst 0, 1) := by decide +kernel
theorem dX8_rests_38 : decode cX8_rests 38 = .ok (.goto 6, 3) := by decide +kernel
theorem dX8_rests_41 : decode cX8_rests 41 = .ok (.ldc_w 284, 3) := by decide +kernel
theorem dX8_rests_44 : decode cX8_rests 44 = .ok (.iastore, 1) := by decide +kernel
theorem dX8_rests_45 : decode cX8_rests 45 = .ok (.iinc 3 1, 3) := by decide +kernel
theorem dX8_rests_48 : decode cX8_rests 48 = .ok (.goto (-46), 3) := by decide +kernel
theorem dX8_rests_51 : decode cX8_rests 51 = .ok (.iconst 1, 1) := by decide +kernel
theorem dX8_rests_52 : decode cX8_rests 52 = .ok (.istore_n 3, 1) := by decide +kernel
theorem dX8_rests_53 : decode cX8_rests 53 = .ok (.iload_n 3, 1) := by decide +kernel
theorem dX8_rests_54 : decode cX8_rests 54 = .ok (.ifCond .eq 228, 3) := by decide +kernel
theorem dX8_rests_57 : decode cX8_rests 57 = .ok (.iconst 0, 1) := by decide +kernel
theorem dX8_rests_58 : decode cX8_rests 58 = .ok (.istore_n 3, 1) := by decide +kernel
theorem dX8_rests_59 : decode cX8_rests 59 = .ok (.sipush 160, 3) := by decide +kernel
theorem dX8_rests_62 : decode cX8_rests 62 = .ok (.iload_n 1, 1) := by decide +kernel
theorem dX8_rests_63 : decode cX8_rests 63 = .ok (.imul, 1) := by decide +kernel
theorem dX8_rests_64 : decode cX8_rests 64 = .ok (.istore 4, 2) := by decide +kernel
theorem dX8_rests_66 : decode cX8_rests 66 = .ok (.iload 4, 2) := by decide +kernel
theorem dX8_rests_68 : decode cX8_rests 68 = .ok (.sipush 160, 3) := by decide +kernel
theorem dX8_rests_71 : decode cX8_rests 71 = .ok (.iload_n 1, 1) := by decide +kernel
theorem dX8_rests_72 : decode cX8_rests 72 = .ok (.imul, 1) := by decide +kernel
theorem dX8_rests_73 : decode cX8_rests 73 = .ok (.aload_n 0, 1) := by decide +kernel
theorem dX8_rests_74 : decode cX8_rests 74 = .ok (.getfield 19, 3) := by decide +kernel
theorem dX8_rests_77 : decode cX8_rests 77 = .ok (.iload_n 1, 1) := by decide +kernel
theorem dX8_rests_78 : decode cX8_rests 78 = .ok (.iaload, 1) := by decide +kernel
theorem dX8_rests_79 : decode cX8_rests 79 = .ok (.iadd, 1) := by decide +kernel
theorem dX8_rests_80 : decode cX8_rests 80 = .ok (.if_icmp .ge 199, 3) := by decide +kernel
