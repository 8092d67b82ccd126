theorem dL_isWell_0 : decode cL_isWell 0 = .ok (.aload_n 0, 1) := by decide +kernel
theorem dL_isWell_1 : decode cL_isWell 1 = .ok (.invokevirtual 80, 3) := by decide +kernel
theorem dL_isWell_4 : decode cL_isWell 4 = .ok (.istore_n 1, 1) := by decide +kernel
theorem dL_isWell_5 : decode cL_isWell 5 = .ok (.aload_n 0, 1) := by decide +kernel
theorem dL_isWell_6 : decode cL_isWell 6 = .ok (.invokevirtual 118, 3) := by decide +kernel
theorem dL_isWell_9 : decode cL_isWell 9 = .ok (.istore_n 2, 1) := by decide +kernel
theorem dL_isWell_10 : decode cL_isWell 10 = .ok (.aload_n 0, 1) := by decide +kernel
theorem dL_isWell_11 : decode cL_isWell 11 = .ok (.invokevirtual 152, 3) := by decide +kernel
theorem dL_isWell_14 : decode cL_isWell 14 = .ok (.aload_n 0, 1) := by decide +kernel
theorem dL_isWell_15 : decode cL_isWell 15 = .ok (.invokevirtual 143, 3) := by decide +kernel
theorem dL_isWell_18 : decode cL_isWell 18 = .ok (.iadd, 1) := by decide +kernel
theorem dL_isWell_19 : decode cL_isWell 19 = .ok (.iload_n 2, 1) := by decide +kernel
theorem dL_isWell_20 : decode cL_isWell 20 = .ok (.if_icmp .ne 108, 3) := by decide +kernel
theorem dL_isWell_23 : decode cL_isWell 23 = .ok (.aload_n 0, 1) := by decide +kernel
theorem dL_isWell_24 : decode cL_isWell 24 = .ok (.invokevirtual 114, 3) := by decide +kernel
theorem dL_isWell_27 : decode cL_isWell 27 = .ok (.iload_n 2, 1) := by decide +kernel
theorem dL_isWell_28 : decode cL_isWell 28 = .ok (.ifCond .eq 13, 3) := by decide +kernel
theorem dL_isWell_31 : decode cL_isWell 31 = .ok (.aload_n 0, 1) := by decide +kernel
theorem dL_isWell_32 : decode cL_isWell 32 = .ok (.invokevirtual 93, 3) := by decide +kernel
theorem dL_isWell_35 : decode cL_isWell 35 = .ok (.iload_n 2, 1) := by decide +kernel
theorem dL_isWell_36 : decode cL_isWell 36 = .ok (.iadd, 1) := by decide +kernel
theorem dL_isWell_37 : decode cL_isWell 37 = .ok (.iload_n 1, 1) := by decide +kernel
theorem dL_isWell_38 : decode cL_isWell 38 = .ok (.if_icmp .le 7, 3) := by decide +kernel
theorem dL_isWell_41 : decode cL_isWell 41 = .ok (.iconst 1, 1) := by decide +kernel
theorem dL_isWell_42 : decode cL_isWell 42 = .ok (.goto 4, 3) := by decide +kernel
theorem dL_isWell_45 : decode cL_isWell 45 = .ok (.iconst 0, 1) := by decide +kernel
theorem dL_isWell_46 : decode cL_isWell 46 = .ok (.if_icmp .ne 82, 3) := by decide +kernel
theorem dL_isWell_49 : decode cL_isWell 49 = .ok (.aload_n 0, 1) := by decide +kernel
theorem dL_isWell_50 : decode cL_isWell 50 = .ok (.invokevirtual 121, 3) := by decide +kernel
theorem dL_isWell_53 : decode cL_isWell 53 = .ok (.aload_n 0, 1) := by decide +kernel
theorem dL_isWell_54 : decode cL_isWell 54 = .ok (.invokevirtual 104, 3) := by decide +kernel
theorem dL_isWell_57 : decode cL_isWell 57 = .ok (.if_icmp .gt 71, 3) := by decide +kernel
theorem dL_isWell_60 : decode cL_isWell 60 = .ok (.aload_n 0, 1) := by decide +kernel
theorem dL_isWell_61 : decode cL_isWell 61 = .ok (.invokevirtual 104, 3) := by decide +kernel
theorem dL_isWell_64 : decode cL_isWell 64 = .ok (.aload_n 0, 1) := by decide +kernel
theorem dL_isWell_65 : decode cL_isWell 65 = .ok (.invokevirtual 155, 3) := by decide +kernel
theorem dL_isWell_68 : decode cL_isWell 68 = .ok (.if_icmp .ne 60, 3) := by decide +kernel
theorem dL_isWell_71 : decode cL_isWell 71 = .ok (.aload_n 0, 1) := by decide +kernel
theorem dL_isWell_72 : decode cL_isWell 72 = .ok (.invokevirtual 96, 3) := by decide +kernel
theorem dL_isWell_75 : decode cL_isWell 75 = .ok (.aload_n 0, 1) := by decide +kernel
theorem dL_isWell_76 : decode cL_isWell 76 = .ok (.invokevirtual 146, 3) := by decide +kernel
theorem dL_isWell_79 : decode cL_isWell 79 = .ok (.if_icmp .gt 49, 3) := by decide +kernel
theorem dL_isWell_82 : decode cL_isWell 82 = .ok (.aload_n 0, 1) := by decide +kernel
theorem dL_isWell_83 : decode cL_isWell 83 = .ok (.invokevirtual 146, 3) := by decide +kernel
theorem dL_isWell_86 : decode cL_isWell 86 = .ok (.aload_n 0, 1) := by decide +kernel
theorem dL_isWell_87 : decode cL_isWell 87 = .ok (.invokevirtual 96, 3) := by decide +kernel
theorem dL_isWell_90 : decode cL_isWell 90 = .ok (.iload_n 2, 1) := by decide +kernel
theorem dL_isWell_91 : decode cL_isWell 91 = .ok (.imul, 1) := by decide +kernel
theorem dL_isWell_92 : decode cL_isWell 92 = .ok (.if_icmp .gt 36, 3) := by decide +kernel
theorem dL_isWell_95 : decode cL_isWell 95 = .ok (.aload_n 0, 1) := by decide +kernel
theorem dL_isWell_96 : decode cL_isWell 96 = .ok (.invokevirtual 149, 3) := by decide +kernel
theorem dL_isWell_99 : decode cL_isWell 99 = .ok (.ifCond .lt 29, 3) := by decide +kernel
theorem dL_isWell_102 : decode cL_isWell 102 = .ok (.aload_n 0, 1) := by decide +kernel
theorem dL_isWell_103 : decode cL_isWell 103 = .ok (.invokevirtual 114, 3) := by decide +kernel
theorem dL_isWell_106 : decode cL_isWell 106 = .ok (.ifCond .eq 18, 3) := by decide +kernel
theorem dL_isWell_109 : decode cL_isWell 109 = .ok (.iload_n 2, 1) := by decide +kernel
theorem dL_isWell_110 : decode cL_isWell 110 = .ok (.ifCond .eq 14, 3) := by decide +kernel
theorem dL_isWell_113 : decode cL_isWell 113 = .ok (.aload_n 0, 1) := by decide +kernel
theorem dL_isWell_114 : decode cL_isWell 114 = .ok (.invokevirtual 121, 3) := by decide +kernel
theorem dL_isWell_117 : decode cL_isWell 117 = .ok (.aload_n 0, 1) := by decide +kernel
theorem dL_isWell_118 : decode cL_isWell 118 = .ok (.invokevirtual 104, 3) := by decide +kernel
theorem dL_isWell_121 : decode cL_isWell 121 = .ok (.if_icmp .ne 7, 3) := by decide +kernel
theorem dL_isWell_124 : decode cL_isWell 124 = .ok (.iconst 1, 1) := by decide +kernel
theorem dL_isWell_125 : decode cL_isWell 125 = .ok (.goto 4, 3) := by decide +kernel
theorem dL_isWell_128 : decode cL_isWell 128 = .ok (.iconst 0, 1) := by decide +kernel
theorem dL_isWell_129 : decode cL_isWell 129 = .ok (.istore_n 3, 1) := by decide +kernel
theorem dL_isWell_130 : decode cL_isWell 130 = .ok (.iconst 0, 1) := by decide +kernel
theorem dL_isWell_131 : decode cL_isWell 131 = .ok (.istore 4, 2) := by decide +kernel
theorem dL_isWell_133 : decode cL_isWell 133 = .ok (.iload 4, 2) := by decide +kernel
theorem dL_isWell_135 : decode cL_isWell 135 = .ok (.aload_n 0, 1) := by decide +kernel
theorem dL_isWell_136 : decode cL_isWell 136 = .ok (.invokevirtual 121, 3) := by decide +kernel
theorem dL_isWell_139 : decode cL_isWell 139 = .ok (.if_icmp .ge 68, 3) := by decide +kernel
theorem dL_isWell_142 : decode cL_isWell 142 = .ok (.iload_n 3, 1) := by decide +kernel
theorem dL_isWell_143 : decode cL_isWell 143 = .ok (.ifCond .eq 56, 3) := by decide +kernel
theorem dL_isWell_146 : decode cL_isWell 146 = .ok (.aload_n 0, 1) := by decide +kernel
theorem dL_isWell_147 : decode cL_isWell 147 = .ok (.aload_n 0, 1) := by decide +kernel
theorem dL_isWell_148 : decode cL_isWell 148 = .ok (.iload 4, 2) := by decide +kernel
theorem dL_isWell_150 : decode cL_isWell 150 = .ok (.invokestatic 161, 3) := by decide +kernel
theorem dL_isWell_153 : decode cL_isWell 153 = .ok (.invokestatic 138, 3) := by decide +kernel
theorem dL_isWell_156 : decode cL_isWell 156 = .ok (.iconst (-1), 1) := by decide +kernel
theorem dL_isWell_157 : decode cL_isWell 157 = .ok (.if_icmp .ne 42, 3) := by decide +kernel
theorem dL_isWell_160 : decode cL_isWell 160 = .ok (.iload 4, 2) := by decide +kernel
theorem dL_isWell_162 : decode cL_isWell 162 = .ok (.ifCond .eq 20, 3) := by decide +kernel
theorem dL_isWell_165 : decode cL_isWell 165 = .ok (.aload_n 0, 1) := by decide +kernel
theorem dL_isWell_166 : decode cL_isWell 166 = .ok (.iload 4, 2) := by decide +kernel
theorem dL_isWell_168 : decode cL_isWell 168 = .ok (.invokestatic 161, 3) := by decide +kernel
theorem dL_isWell_171 : decode cL_isWell 171 = .ok (.aload_n 0, 1) := by decide +kernel
theorem dL_isWell_172 : decode cL_isWell 172 = .ok (.iload 4, 2) := by decide +kernel
theorem dL_isWell_174 : decode cL_isWell 174 = .ok (.iconst 1, 1) := by decide +kernel
theorem dL_isWell_175 : decode cL_isWell 175 = .ok (.isub, 1) := by decide +kernel
theorem dL_isWell_176 : decode cL_isWell 176 = .ok (.invokestatic 161, 3) := by decide +kernel
theorem dL_isWell_179 : decode cL_isWell 179 = .ok (.if_icmp .le 20, 3) := by decide +kernel
theorem dL_isWell_182 : decode cL_isWell 182 = .ok (.aload_n 0, 1) := by decide +kernel
theorem dL_isWell_183 : decode cL_isWell 183 = .ok (.iload 4, 2) := by decide +kernel
theorem dL_isWell_185 : decode cL_isWell 185 = .ok (.invokestatic 161, 3) := by decide +kernel
theorem dL_isWell_188 : decode cL_isWell 188 = .ok (.aload_n 0, 1) := by decide +kernel
theorem dL_isWell_189 : decode cL_isWell 189 = .ok (.invokevirtual 93, 3) := by decide +kernel
theorem dL_isWell_192 : decode cL_isWell 192 = .ok (.if_icmp .ge 7, 3) := by decide +kernel
theorem dL_isWell_195 : decode cL_isWell 195 = .ok (.iconst 1, 1) := by decide +kernel
theorem dL_isWell_196 : decode cL_isWell 196 = .ok (.goto 4, 3) := by decide +kernel
theorem dL_isWell_199 : decode cL_isWell 199 = .ok (.iconst 0, 1) := by decide +kernel
theorem dL_isWell_200 : decode cL_isWell 200 = .ok (.istore_n 3, 1) := by decide +kernel
theorem dL_isWell_201 : decode cL_isWell 201 = .ok (.iinc 4 1, 3) := by decide +kernel
theorem dL_isWell_204 : decode cL_isWell 204 = .ok (.goto (-71), 3) := by decide +kernel
theorem dL_isWell_207 : decode cL_isWell 207 = .ok (.iconst 0, 1) := by decide +kernel
theorem dL_isWell_208 : decode cL_isWell 208 = .ok (.istore 4, 2) := by decide +kernel
theorem dL_isWell_210 : decode cL_isWell 210 = .ok (.iload 4, 2) := by decide +kernel
theorem dL_isWell_212 : decode cL_isWell 212 = .ok (.iload_n 2, 1) := by decide +kernel
theorem dL_isWell_213 : decode cL_isWell 213 = .ok (.if_icmp .ge 59, 3) := by decide +kernel
theorem dL_isWell_216 : decode cL_isWell 216 = .ok (.iload_n 3, 1) := by decide +kernel
theorem dL_isWell_217 : decode cL_isWell 217 = .ok (.ifCond .eq 47, 3) := by decide +kernel
theorem dL_isWell_220 : decode cL_isWell 220 = .ok (.aload_n 0, 1) := by decide +kernel
theorem dL_isWell_221 : decode cL_isWell 221 = .ok (.iload 4, 2) := by decide +kernel
theorem dL_isWell_223 : decode cL_isWell 223 = .ok (.invokestatic 166, 3) := by decide +kernel
theorem dL_isWell_226 : decode cL_isWell 226 = .ok (.aload_n 0, 1) := by decide +kernel
theorem dL_isWell_227 : decode cL_isWell 227 = .ok (.iload 4, 2) := by decide +kernel
theorem dL_isWell_229 : decode cL_isWell 229 = .ok (.invokestatic 168, 3) := by decide +kernel
theorem dL_isWell_232 : decode cL_isWell 232 = .ok (.if_icmp .ne 32, 3) := by decide +kernel
theorem dL_isWell_235 : decode cL_isWell 235 = .ok (.aload_n 0, 1) := by decide +kernel
theorem dL_isWell_236 : decode cL_isWell 236 = .ok (.iload 4, 2) := by decide +kernel
theorem dL_isWell_238 : decode cL_isWell 238 = .ok (.invokestatic 166, 3) := by decide +kernel
theorem dL_isWell_241 : decode cL_isWell 241 = .ok (.iload_n 2, 1) := by decide +kernel
theorem dL_isWell_242 : decode cL_isWell 242 = .ok (.if_icmp .gt 22, 3) := by decide +kernel
theorem dL_isWell_245 : decode cL_isWell 245 = .ok (.aload_n 0, 1) := by decide +kernel
theorem dL_isWell_246 : decode cL_isWell 246 = .ok (.aload_n 0, 1) := by decide +kernel
theorem dL_isWell_247 : decode cL_isWell 247 = .ok (.iload 4, 2) := by decide +kernel
theorem dL_isWell_249 : decode cL_isWell 249 = .ok (.invokestatic 164, 3) := by decide +kernel
theorem dL_isWell_252 : decode cL_isWell 252 = .ok (.invokestatic 173, 3) := by decide +kernel
theorem dL_isWell_255 : decode cL_isWell 255 = .ok (.iload 4, 2) := by decide +kernel
theorem dL_isWell_257 : decode cL_isWell 257 = .ok (.if_icmp .lt 7, 3) := by decide +kernel
theorem dL_isWell_260 : decode cL_isWell 260 = .ok (.iconst 1, 1) := by decide +kernel
theorem dL_isWell_261 : decode cL_isWell 261 = .ok (.goto 4, 3) := by decide +kernel
theorem dL_isWell_264 : decode cL_isWell 264 = .ok (.iconst 0, 1) := by decide +kernel
theorem dL_isWell_265 : decode cL_isWell 265 = .ok (.istore_n 3, 1) := by decide +kernel
theorem dL_isWell_266 : decode cL_isWell 266 = .ok (.iinc 4 1, 3) := by decide +kernel
theorem dL_isWell_269 : decode cL_isWell 269 = .ok (.goto (-59), 3) := by decide +kernel
theorem dL_isWell_272 : decode cL_isWell 272 = .ok (.iload_n 3, 1) := by decide +kernel
theorem dL_isWell_273 : decode cL_isWell 273 = .ok (.ireturn, 1) := by decide +kernel
set_option maxRecDepth 20000 in
theorem ggL_isWell_X4_lineLength : GoodIn wsL_isWell wsX4_lineLength := goodIn_r _ [5, 6, 7, 8, 9, 10, 11, 12, 259, 260, 261, 262, 263, 264, 265, 266, 267, 268, 269, 270, 271, 272, 273, 274, 275] (by decide +kernel) (by decide +kernel)
set_option maxRecDepth 20000 in
theorem gL_isWell_X4_lineLength : GoodIn wsL_isWell (wsV RL 80 RX4 yX4_lineLength wsX4_lineLength) := goodIn_app (goodIn_of _ (by decide +kernel)) ggL_isWell_X4_lineLength
set_option maxRecDepth 20000 in
theorem ggL_isWell_X4_wordLength : GoodIn wsL_isWell wsX4_wordLength := goodIn_r _ [16, 6, 7, 8, 9, 10, 11, 12, 259, 260, 261, 262, 263, 264, 265, 266, 267, 268, 269, 270, 271, 272, 273, 274, 275] (by decide +kernel) (by decide +kernel)
set_option maxRecDepth 20000 in
theorem gL_isWell_X4_wordLength : GoodIn wsL_isWell (wsV RL 118 RX4 yX4_wordLength wsX4_wordLength) := goodIn_app (goodIn_of _ (by decide +kernel)) ggL_isWell_X4_wordLength
set_option maxRecDepth 20000 in
theorem ggL_isWell_X4_border : GoodIn wsL_isWell wsX4_border := goodIn_r _ [20, 21, 6, 22, 23, 24, 25, 26, 27, 28, 29, 30, 31, 32, 33, 8, 9, 10, 11, 12, 34, 35, 36, 37, 38, 39, 40, 41, 42, 43, 44, 45, 46, 47, 48, 49, 50, 51, 52, 53, 54, 55, 7, 56, 57, 58, 59, 259, 260, 261, 262, 263, 264, 265, 266, 267, 268, 269, 270, 271, 272, 273, 276, 277, 278, 274, 275] (by decide +kernel) (by decide +kernel)
set_option maxRecDepth 20000 in
theorem gL_isWell_X4_border : GoodIn wsL_isWell (wsV RL 152 RX4 yX4_border wsX4_border) := goodIn_app (goodIn_of _ (by decide +kernel)) ggL_isWell_X4_border
set_option maxRecDepth 20000 in
theorem ggL_isWell_X4_period : GoodIn wsL_isWell wsX4_period := goodIn_r _ [63, 21, 6, 22, 23, 24, 25, 26, 27, 28, 29, 30, 31, 32, 33, 8, 9, 10, 11, 12, 34, 35, 36, 37, 38, 39, 40, 41, 42, 43, 44, 45, 46, 47, 48, 49, 50, 51, 52, 53, 54, 55, 56, 57, 58, 59, 259, 260, 261, 262, 263, 264, 265, 266, 267, 268, 269, 270, 271, 272, 273, 276, 277, 278, 274, 275] (by decide +kernel) (by decide +kernel)
set_option maxRecDepth 20000 in
theorem gL_isWell_X4_period : GoodIn wsL_isWell (wsV RL 143 RX4 yX4_period wsX4_period) := goodIn_app (goodIn_of _ (by decide +kernel)) ggL_isWell_X4_period
set_option maxRecDepth 20000 in
theorem ggL_isWell_X4_isOver : GoodIn wsL_isWell wsX4_isOver := goodIn_r _ [67, 6, 68, 69, 70, 71, 72, 73, 74, 75, 76, 77, 10, 78, 12, 79, 80, 81, 82, 83, 84, 85, 29, 86, 87, 8, 9, 11, 259, 260, 261, 262, 263, 264, 265, 266, 267, 268, 269, 270, 271, 272, 273, 274, 275] (by decide +kernel) (by decide +kernel)
set_option maxRecDepth 20000 in
theorem gL_isWell_X4_isOver : GoodIn wsL_isWell (wsV RL 114 RX4 yX4_isOver wsX4_isOver) := goodIn_app (goodIn_of _ (by decide +kernel)) ggL_isWell_X4_isOver
set_option maxRecDepth 20000 in
theorem ggL_isWell_X4_place : GoodIn wsL_isWell wsX4_place := goodIn_r _ [91, 6, 259, 260, 261, 262, 263, 264, 265, 266, 267, 268, 269, 270, 271, 272, 273] (by decide +kernel) (by decide +kernel)
set_option maxRecDepth 20000 in
theorem gL_isWell_X4_place : GoodIn wsL_isWell (wsV RL 93 RX4 yX4_place wsX4_place) := goodIn_app (goodIn_of _ (by decide +kernel)) ggL_isWell_X4_place
set_option maxRecDepth 20000 in
theorem ggL_isWell_X4_foundCount : GoodIn wsL_isWell wsX4_foundCount := goodIn_r _ [95, 6, 7, 8, 9, 10, 11, 12, 259, 260, 261, 262, 263, 264, 265, 266, 267, 268, 269, 270, 271, 272, 273, 274, 275] (by decide +kernel) (by decide +kernel)
set_option maxRecDepth 20000 in
theorem gL_isWell_X4_foundCount : GoodIn wsL_isWell (wsV RL 121 RX4 yX4_foundCount wsX4_foundCount) := goodIn_app (goodIn_of _ (by decide +kernel)) ggL_isWell_X4_foundCount
set_option maxRecDepth 20000 in
theorem ggL_isWell_X4_occurrences : GoodIn wsL_isWell wsX4_occurrences := goodIn_r _ [99, 100, 101, 102, 103, 4, 104, 6, 21, 105, 106, 107, 71, 108, 83, 73, 109, 110, 111, 74, 112, 113, 114, 115, 116, 10, 117, 12, 47, 118, 119, 120, 121, 122, 123, 124, 125, 126, 127, 128, 129, 130, 131, 132, 133, 134, 22, 23, 24, 25, 26, 27, 28, 29, 30, 31, 32, 33, 8, 9, 11, 34, 35, 36, 37, 38, 39, 40, 41, 42, 43, 44, 45, 46, 48, 49, 50, 51, 52, 53, 54, 55, 135, 136, 137, 138, 139, 69, 70, 72, 75, 76, 77, 78, 79, 80, 81, 82, 84, 85, 86, 87, 140, 141, 142, 143, 144, 145, 146, 147, 148, 149, 150, 151, 152, 153, 57, 58, 59, 154, 155, 156, 157, 158, 159, 160, 161, 162, 163, 164, 165, 166, 7, 259, 260, 261, 262, 263, 264, 265, 266, 267, 268, 269, 270, 271, 272, 273, 274, 275, 276, 277, 278] (by decide +kernel) (by decide +kernel)
set_option maxRecDepth 20000 in
theorem gL_isWell_X4_occurrences : GoodIn wsL_isWell (wsV RL 104 RX4 yX4_occurrences wsX4_occurrences) := goodIn_app (goodIn_of _ (by decide +kernel)) ggL_isWell_X4_occurrences
set_option maxRecDepth 20000 in
theorem ggL_isWell_X4_occurrencesByTrying : GoodIn wsL_isWell wsX4_occurrencesByTrying := goodIn_r _ [170, 6, 171, 76, 77, 10, 78, 12, 172, 80, 81, 71, 82, 83, 73, 84, 85, 29, 86, 87, 8, 9, 11, 173, 174, 175, 4, 176, 7, 177, 44, 45, 46, 47, 48, 49, 50, 51, 259, 260, 261, 262, 263, 264, 265, 266, 267, 268, 269, 270, 271, 272, 273, 274, 275] (by decide +kernel) (by decide +kernel)
set_option maxRecDepth 20000 in
theorem gL_isWell_X4_occurrencesByTrying : GoodIn wsL_isWell (wsV RL 155 RX4 yX4_occurrencesByTrying wsX4_occurrencesByTrying) := goodIn_app (goodIn_of _ (by decide +kernel)) ggL_isWell_X4_occurrencesByTrying
set_option maxRecDepth 20000 in
theorem ggL_isWell_X4_lookCount : GoodIn wsL_isWell wsX4_lookCount := goodIn_r _ [181, 6, 259, 260, 261, 262, 263, 264, 265, 266, 267, 268, 269, 270, 271, 272, 273] (by decide +kernel) (by decide +kernel)
set_option maxRecDepth 20000 in
theorem gL_isWell_X4_lookCount : GoodIn wsL_isWell (wsV RL 96 RX4 yX4_lookCount wsX4_lookCount) := goodIn_app (goodIn_of _ (by decide +kernel)) ggL_isWell_X4_lookCount
set_option maxRecDepth 20000 in
theorem ggL_isWell_X4_comparedCount : GoodIn wsL_isWell wsX4_comparedCount := goodIn_r _ [185, 6, 259, 260, 261, 262, 263, 264, 265, 266, 267, 268, 269, 270, 271, 272, 273] (by decide +kernel) (by decide +kernel)
set_option maxRecDepth 20000 in
theorem gL_isWell_X4_comparedCount : GoodIn wsL_isWell (wsV RL 146 RX4 yX4_comparedCount wsX4_comparedCount) := goodIn_app (goodIn_of _ (by decide +kernel)) ggL_isWell_X4_comparedCount
set_option maxRecDepth 20000 in
theorem ggL_isWell_X4_skippedPlaces : GoodIn wsL_isWell wsX4_skippedPlaces := goodIn_r _ [189, 6, 190, 28, 29, 30, 172, 80, 81, 71, 82, 83, 73, 84, 85, 86, 87, 8, 9, 10, 11, 12, 259, 260, 261, 262, 263, 264, 265, 266, 267, 268, 269, 270, 271, 272, 273, 274, 275] (by decide +kernel) (by decide +kernel)
set_option maxRecDepth 20000 in
theorem gL_isWell_X4_skippedPlaces : GoodIn wsL_isWell (wsV RL 149 RX4 yX4_skippedPlaces wsX4_skippedPlaces) := goodIn_app (goodIn_of _ (by decide +kernel)) ggL_isWell_X4_skippedPlaces
set_option maxRecDepth 20000 in
theorem ggL_isWell_L_found : GoodIn wsL_isWell wsL_found := goodIn_ca (goodIn_r _ [194, 195, 196, 197, 198, 199, 4, 200, 6, 201, 202, 203, 204, 205, 206, 49, 50, 10, 51, 12, 177, 44, 45, 46, 47, 48, 259, 260, 261, 262, 263, 264, 265, 266, 267, 268, 269, 270, 271, 272, 273, 274, 275] (by decide +kernel) (by decide +kernel)) (goodIn_sub (fun _ h => List.mem_cons_of_mem _ (List.mem_append_left _ (List.mem_append_left _ (List.mem_append_right _ h)))) (by decide +kernel))
set_option maxRecDepth 20000 in
theorem gL_isWell_L_found : GoodIn wsL_isWell (va_wsS RL 161 yL_found wsL_found) := goodIn_app (goodIn_of _ (by decide +kernel)) ggL_isWell_L_found
set_option maxRecDepth 20000 in
theorem ggL_isWell_L_difference : GoodIn wsL_isWell wsL_difference := goodIn_ca (goodIn_ca (goodIn_r _ [209, 195, 210, 196, 211, 212, 213, 214, 4, 215, 204, 205, 216, 217, 6, 172, 80, 81, 71, 82, 83, 73, 84, 85, 29, 86, 87, 8, 9, 10, 11, 12, 171, 76, 77, 78, 218, 145, 146, 147, 148, 44, 45, 46, 47, 48, 49, 50, 51, 259, 260, 261, 262, 263, 264, 265, 266, 267, 268, 269, 270, 271, 272, 273, 274, 275] (by decide +kernel) (by decide +kernel)) (goodIn_sub (fun _ h => List.mem_cons_of_mem _ (List.mem_append_left _ (List.mem_append_left _ (List.mem_append_right _ h)))) (by decide +kernel))) (goodIn_sub (fun _ h => List.mem_cons_of_mem _ (List.mem_append_left _ (List.mem_append_right _ h))) (by decide +kernel))
set_option maxRecDepth 20000 in
theorem gL_isWell_L_difference : GoodIn wsL_isWell (va_wsS RL 138 yL_difference wsL_difference) := goodIn_app (goodIn_of _ (by decide +kernel)) ggL_isWell_L_difference
set_option maxRecDepth 20000 in
theorem ggL_isWell_L_endSkip : GoodIn wsL_isWell wsL_endSkip := goodIn_ca (goodIn_r _ [221, 195, 196, 222, 223, 224, 4, 225, 6, 21, 201, 202, 203, 204, 205, 206, 49, 50, 10, 51, 12, 22, 23, 24, 25, 26, 27, 28, 29, 30, 31, 32, 33, 8, 9, 11, 34, 35, 36, 37, 38, 39, 40, 41, 42, 43, 44, 45, 46, 47, 48, 52, 53, 54, 55, 226, 163, 164, 165, 259, 260, 261, 262, 263, 264, 265, 266, 267, 268, 269, 270, 271, 272, 273, 274, 275, 276, 277, 278] (by decide +kernel) (by decide +kernel)) (goodIn_sub (fun _ h => List.mem_cons_of_mem _ (List.mem_append_left _ (List.mem_append_left _ (List.mem_append_right _ h)))) (by decide +kernel))
set_option maxRecDepth 20000 in
theorem gL_isWell_L_endSkip : GoodIn wsL_isWell (va_wsS RL 166 yL_endSkip wsL_endSkip) := goodIn_app (goodIn_of _ (by decide +kernel)) ggL_isWell_L_endSkip
set_option maxRecDepth 20000 in
theorem ggL_isWell_L_endTried : GoodIn wsL_isWell wsL_endTried := goodIn_ca (goodIn_r _ [229, 195, 196, 230, 231, 232, 4, 233, 6, 201, 202, 203, 204, 205, 206, 49, 50, 10, 51, 12, 7, 8, 9, 11, 234, 235, 236, 237, 85, 29, 86, 177, 44, 45, 46, 47, 48, 259, 260, 261, 262, 263, 264, 265, 266, 267, 268, 269, 270, 271, 272, 273, 274, 275] (by decide +kernel) (by decide +kernel)) (goodIn_sub (fun _ h => List.mem_cons_of_mem _ (List.mem_append_left _ (List.mem_append_left _ (List.mem_append_right _ h)))) (by decide +kernel))
set_option maxRecDepth 20000 in
theorem gL_isWell_L_endTried : GoodIn wsL_isWell (va_wsS RL 168 yL_endTried wsL_endTried) := goodIn_app (goodIn_of _ (by decide +kernel)) ggL_isWell_L_endTried
set_option maxRecDepth 20000 in
theorem ggL_isWell_L_wordLetter : GoodIn wsL_isWell wsL_wordLetter := goodIn_ca (goodIn_r _ [240, 195, 196, 241, 242, 243, 4, 244, 6, 201, 202, 203, 204, 205, 206, 49, 50, 10, 51, 12, 177, 44, 45, 46, 47, 48, 259, 260, 261, 262, 263, 264, 265, 266, 267, 268, 269, 270, 271, 272, 273, 274, 275] (by decide +kernel) (by decide +kernel)) (goodIn_sub (fun _ h => List.mem_cons_of_mem _ (List.mem_append_left _ (List.mem_append_left _ (List.mem_append_right _ h)))) (by decide +kernel))
set_option maxRecDepth 20000 in
theorem gL_isWell_L_wordLetter : GoodIn wsL_isWell (va_wsS RL 164 yL_wordLetter wsL_wordLetter) := goodIn_app (goodIn_of _ (by decide +kernel)) ggL_isWell_L_wordLetter
set_option maxRecDepth 20000 in
theorem ggL_isWell_L_last : GoodIn wsL_isWell wsL_last := goodIn_ca (goodIn_r _ [247, 248, 196, 249, 250, 251, 4, 252, 6, 253, 254, 255, 256, 257, 258, 159, 160, 10, 161, 12, 47, 259, 260, 261, 262, 263, 264, 265, 266, 267, 268, 269, 270, 271, 272, 273, 274, 275] (by decide +kernel) (by decide +kernel)) (goodIn_sub (fun _ h => List.mem_cons_of_mem _ (List.mem_append_right _ h)) (by decide +kernel))
set_option maxRecDepth 20000 in
theorem gL_isWell_L_last : GoodIn wsL_isWell (va_wsS RL 173 yL_last wsL_last) := goodIn_app (goodIn_of _ (by decide +kernel)) ggL_isWell_L_last
/-! isWell -/
theorem per_rng0 (M : MS) : (perF M.2.1.length (gl M.2.1) : Int) ≤ (M.2.1.length : Int) := by
  rcases Nat.eq_zero_or_pos M.2.1.length with q | q
  · rw [q]
    exact Int.le_refl _
  · exact (per_rng q).2
theorem Inv.m_pos {M : MS} (h : Inv M) (hk : 0 < M.2.2.1.length) : ¬ (M.2.1.length : Int) = 0 := by
  intro q
  have hc : (M.2.2.1.length : Int) = if (M.2.1.length : Int) = 0 then 0 else cntF M.2.1.length (gl M.2.1) (gl M.1) (min M.2.2.2.2.2.1.toNat (M.1.length + 1 - M.2.1.length)) := h.2.2.2.2.1
  rw [if_pos q] at hc
  omega
theorem last_ge {n : Nat} {f : Nat → Int32} {x : Int32} {j : Nat} (hj : j < n) (hx : f j = x) : (j : Int) ≤ lastF n f x ∧ lastF n f x < (n : Int) := by
  have h := lastF_spec f x n
  obtain ⟨h1, h2, h3, h4⟩ := h
  refine ⟨?_, h2⟩
  rcases Int.lt_or_le (lastF n f x) j with q | q
  · exact absurd hx (h4 j q hj)
  · exact q
theorem Inv.num {M : MS} (h : Inv M) : M.2.2.2.2.2.2.1 ≤ max ((M.1.length : Int) - (M.2.1.length : Int) + 1) 0 ∧ M.2.2.2.2.2.2.1 ≤ M.2.2.2.2.2.2.2 ∧ M.2.2.2.2.2.2.2 ≤ M.2.2.2.2.2.2.1 * (M.2.1.length : Int) := h.2.2.2.2.2
theorem Inv.fnd {M : MS} (h : Inv M) {k : Nat} (hk : k < M.2.2.1.length) : 0 ≤ (gl M.2.2.1 k).toInt ∧ (gl M.2.2.1 k).toInt < M.2.2.2.2.2.1 ∧ (gl M.2.2.1 k).toInt + (M.2.1.length : Int) ≤ (M.1.length : Int) ∧ mD M (gl M.2.2.1 k).toInt = -1 ∧ ∀ i : Nat, i < k → (gl M.2.2.1 i).toInt < (gl M.2.2.1 k).toInt := h.2.2.2.1 k hk
theorem MOk.lk {M : MS} (h : MOk M) : M.2.2.2.2.2.2.1 ≤ M.2.2.2.2.2.1 := h.2.2.2.2.2.2.2.1
def KCW (p : Program) (l : Launch) (s : State) (m : MethodId) (args : Array Value) (c : Code) (A : Nat → Prop) (D : va_G) (cy : Nat → ClassId) : Prop :=
  p.tables.exec = Jvm.exec ∧ c.code = cL_isWell ∧ c.maxLocals = 5 ∧ s.vm.findClass RL = some m.cls ∧ (∀ w ∈ wsL_isWell, w.before args s = true) ∧ va_K D vwCl (tysA cy) s ∧ TB s ∧ TC s ∧ SZ A s s.heap ∧ (∀ q : Nat, s.heap.size ≤ q → A q) ∧ l.stackTraces = false
def KEW (p : Program) (l : Launch) (e : Env) (s : State) (m : MethodId) (args : Array Value) (below : List Frame) (meth : Method) (c : Code) (A : Nat → Prop) (Q : State → Prop) (D : va_G) (cy : Nat → ClassId) (ad ae : Nat → Nat) (M : MS) (h : List MS) (sl : Nat → Option MS) (tx : List Int32) : Prop :=
  ∀ (pc : Nat) (ls : Array Slot) (H : Heap) (locs : List Loc) (c1 s1 : Nat), decode cL_isWell pc = .ok (.ireturn, 1) → SR D cy A ad (M, h, sl, tx) H → va_S A s.heap H locs → c1 ≤ 400 → s1 ≤ 2400 → W p l e ({ frames := 10, cells := 400, slots := 6 * 400, locals := 300 } : Room) s m args below meth c H locs c1 s1 Q (F0 m pc ls [.int (iI 1)])
set_option maxHeartbeats 8000000 in
set_option maxRecDepth 100000 in
theorem iw_130 {p : Program} {l : Launch} {e : Env} {s : State} {m : MethodId} {args : Array Value} {below : List Frame} {meth : Method} {c : Code} {A : Nat → Prop} {Q : State → Prop} {D : va_G} {cy : Nat → ClassId} {ad ae : Nat → Nat} (C : KCW p l s m args c A D cy) {M : MS} {h : List MS} {sl : Nat → Option MS} {tx : List Int32} (kend : KEW p l e s m args below meth c A Q D cy ad ae M h sl tx) (hMI : Inv M) {H : Heap} {locs : List Loc} {ls : Array Slot} (hI : SR D cy A ad (M, h, sl, tx) H) (hS : va_S A s.heap H locs) (hl : lv_has ls 5 [(0, .ref (ad 0)), (1, .int (iI (M.1.length : Int))), (2, .int (iI (M.2.1.length : Int))), (3, .int (iI 1))]) : W p l e ({ frames := 10, cells := 400, slots := 6 * 400, locals := 300 } : Room) s m args below meth c H locs 0 0 Q (F0 m 130 ls []) := by
  obtain ⟨hx, hb, hml, hown, hts, hK, hT, hC, hZ, hA, hfl⟩ := id C
  have hM := hMI.1
  have hn := hM.nums
  refine lv_iconst (v := iI 0) hx hb dL_isWell_130 rfl ?_
  refine lv_istore (lv' := [(4, .int (iI 0)), (0, .ref (ad 0)), (1, .int (iI (M.1.length : Int))), (2, .int (iI (M.2.1.length : Int))), (3, .int (iI 1))]) hx hb dL_isWell_131 hl (by decide) rfl (fun ls hl => ?_)
  have hloop1 : ∀ (n1 cl1 sl1 : Nat) (k : Int) (hk : 0 ≤ k ∧ k ≤ (M.2.2.1.length : Int)) (hcl1 : cl1 + 5 * n1 ≤ 310 ∧ sl1 + 30 * n1 ≤ 1860) (hm1 : (M.2.2.1.length : Int) - k < (n1 : Int)) (H : Heap) (locs : List Loc) (ls : Array Slot) (hI : SR D cy A ad (M, h, sl, tx) H) (hS : va_S A s.heap H locs) (hl : lv_has ls 5 [(4, .int (iI k)), (0, .ref (ad 0)), (1, .int (iI (M.1.length : Int))), (2, .int (iI (M.2.1.length : Int))), (3, .int (iI 1))]), W p l e ({ frames := 10, cells := 400, slots := 6 * 400, locals := 300 } : Room) s m args below meth c H locs cl1 sl1 Q (F0 m 133 ls []) := by
    intro n1
    induction n1 with
    | zero =>
      intro cl1 sl1 k hk hcl1 hm1; exact absurd hm1 (by omega)
    | succ n1 ih1 =>
      intro cl1 sl1 k hk hcl1 hm1 H locs ls hI hS hl
      refine lv_iload hx hb dL_isWell_133 (lv_at hl 0 rfl) ?_
      refine lv_aload_n hx hb dL_isWell_135 rfl (lv_at hl 1 rfl) ?_
      refine sV1 (n := 0) (As := []) (rest := [.int (iI k)]) ⟨hx, hb, hml, hown, hts⟩ (x_foundCount l D cy ad M h sl tx  ) gL_isWell_X4_foundCount rfl (by decide +kernel) ⟨Nat.le_of_ble_eq_true rfl, Nat.le_of_ble_eq_true rfl⟩ hK hT hA rfl hl.1 rfl (Nat.le_of_ble_eq_true rfl) dL_isWell_136 ⟨show cl1 ≤ 400 by omega, show sl1 ≤ 2400 by omega⟩ hI hS (fun H locs hI hS => ?_)
      have hI : SR D cy A ad (M, h, sl, tx) H := hI
      refine z_icmp_ge (tgt := 207) hx hb (iI_t (by omega) (by omega)) (iI_t (by omega) (by omega)) dL_isWell_139 (by decide) (fun c3 => ?_) (fun c3 => ?_)
      · --
        refine lv_iconst (v := iI 0) hx hb dL_isWell_207 rfl ?_
        refine lv_istore (lv' := [(4, .int (iI 0)), (0, .ref (ad 0)), (1, .int (iI (M.1.length : Int))), (2, .int (iI (M.2.1.length : Int))), (3, .int (iI 1))]) hx hb dL_isWell_208 hl (by decide) rfl (fun ls hl => ?_)
        have hloop4 : ∀ (n4 cl4 sl4 : Nat) (j : Int) (hj : 0 ≤ j ∧ j ≤ (M.2.1.length : Int)) (hcl4 : cl4 + 5 * n4 ≤ 398 ∧ sl4 + 30 * n4 ≤ 2388) (hm4 : (M.2.1.length : Int) - j < (n4 : Int)) (H : Heap) (locs : List Loc) (ls : Array Slot) (hI : SR D cy A ad (M, h, sl, tx) H) (hS : va_S A s.heap H locs) (hl : lv_has ls 5 [(4, .int (iI j)), (0, .ref (ad 0)), (1, .int (iI (M.1.length : Int))), (2, .int (iI (M.2.1.length : Int))), (3, .int (iI 1))]), W p l e ({ frames := 10, cells := 400, slots := 6 * 400, locals := 300 } : Room) s m args below meth c H locs cl4 sl4 Q (F0 m 210 ls []) := by
          intro n4
          induction n4 with
          | zero =>
            intro cl4 sl4 j hj hcl4 hm4; exact absurd hm4 (by omega)
          | succ n4 ih4 =>
            intro cl4 sl4 j hj hcl4 hm4 H locs ls hI hS hl
            refine lv_iload hx hb dL_isWell_210 (lv_at hl 0 rfl) ?_
            refine lv_iload_n hx hb dL_isWell_212 rfl (lv_at hl 3 rfl) ?_
            refine z_icmp_ge (tgt := 272) hx hb (iI_t (by omega) (by omega)) (iI_t (by omega) (by omega)) dL_isWell_213 (by decide) (fun c5 => ?_) (fun c5 => ?_)
            · --
              refine lv_iload_n hx hb dL_isWell_272 rfl (lv_at hl 4 rfl) ?_
              exact kend 273 _ _ _ _ _ dL_isWell_273 hI hS (by omega) (by omega)
            · --
              refine lv_iload_n hx hb dL_isWell_216 rfl (lv_at hl 4 rfl) ?_
              refine z_if_eq (tgt := 264) hx hb (iI_t (by omega) (by omega)) dL_isWell_217 (by decide) (fun c6 => absurd c6 (by omega)) (fun _ => ?_)
              refine lv_aload_n hx hb dL_isWell_220 rfl (lv_at hl 1 rfl) ?_
              refine lv_iload hx hb dL_isWell_221 (lv_at hl 0 rfl) ?_
              have he1 := (endF_spec (W := gl M.2.1) (show j.toNat < M.2.1.length by omega)).2
              have he2 := he1.1
              have he3 := he1.2.1
              refine sS1 (n := 2) (As := [.int (iI j)]) (rest := []) ⟨hx, hb, hml, hown, hts⟩ (x_endSkip l hfl D cy ad M h sl tx j (by omega) (by omega)) gL_isWell_L_endSkip rfl (by decide +kernel) ⟨Nat.le_of_ble_eq_true rfl, Nat.le_of_ble_eq_true rfl⟩ hK hT hC hZ hA rfl hl.1 rfl (Nat.le_of_ble_eq_true rfl) dL_isWell_223 ⟨show cl4 + 1 ≤ 400 by omega, show sl4 + 6 * 1 ≤ 2400 by omega⟩ hI hS (fun H locs hI hS => ?_)
              have hI : SR D cy A ad (M, h, sl, tx) H := hI
              refine lv_aload_n hx hb dL_isWell_226 rfl (lv_at hl 1 rfl) ?_
              refine lv_iload hx hb dL_isWell_227 (lv_at hl 0 rfl) ?_
              refine sS1 (n := 2) (As := [.int (iI j)]) (rest := [.int (iI (endF M.2.1.length (gl M.2.1) j.toNat : Int))]) ⟨hx, hb, hml, hown, hts⟩ (x_endTried l hfl D cy ad M h sl tx j (by omega) (by omega)) gL_isWell_L_endTried rfl (by decide +kernel) ⟨Nat.le_of_ble_eq_true rfl, Nat.le_of_ble_eq_true rfl⟩ hK hT hC hZ hA rfl hl.1 rfl (Nat.le_of_ble_eq_true rfl) dL_isWell_229 ⟨show (cl4 + 1) + 1 ≤ 400 by omega, show (sl4 + 6 * 1) + 6 * 1 ≤ 2400 by omega⟩ hI hS (fun H locs hI hS => ?_)
              have hI : SR D cy A ad (M, h, sl, tx) H := hI
              refine z_icmp_ne (tgt := 264) hx hb (iI_t (by omega) (by omega)) (iI_t (by omega) (by omega)) dL_isWell_232 (by decide) (fun c9 => absurd c9 (by omega)) (fun c9 => ?_)
              refine lv_aload_n hx hb dL_isWell_235 rfl (lv_at hl 1 rfl) ?_
              refine lv_iload hx hb dL_isWell_236 (lv_at hl 0 rfl) ?_
              refine sS1 (n := 2) (As := [.int (iI j)]) (rest := []) ⟨hx, hb, hml, hown, hts⟩ (x_endSkip l hfl D cy ad M h sl tx j (by omega) (by omega)) gL_isWell_L_endSkip rfl (by decide +kernel) ⟨Nat.le_of_ble_eq_true rfl, Nat.le_of_ble_eq_true rfl⟩ hK hT hC hZ hA rfl hl.1 rfl (Nat.le_of_ble_eq_true rfl) dL_isWell_238 ⟨show ((cl4 + 1) + 1) + 1 ≤ 400 by omega, show ((sl4 + 6 * 1) + 6 * 1) + 6 * 1 ≤ 2400 by omega⟩ hI hS (fun H locs hI hS => ?_)
              have hI : SR D cy A ad (M, h, sl, tx) H := hI
              refine lv_iload_n hx hb dL_isWell_241 rfl (lv_at hl 3 rfl) ?_
              refine z_icmp_gt (tgt := 264) hx hb (iI_t (by omega) (by omega)) (iI_t (by omega) (by omega)) dL_isWell_242 (by decide) (fun c11 => absurd c11 (by omega)) (fun c11 => ?_)
              refine lv_aload_n hx hb dL_isWell_245 rfl (lv_at hl 1 rfl) ?_
              refine lv_aload_n hx hb dL_isWell_246 rfl (lv_at hl 1 rfl) ?_
              refine lv_iload hx hb dL_isWell_247 (lv_at hl 0 rfl) ?_
              have hlr := hMI.2.2.1 j.toNat (by omega)
              have hla := last_ge (n := M.2.1.length) (f := gl M.2.1) (x := iI (gl M.2.1 j.toNat).toInt) (j := j.toNat) (by omega) (iI_of _).symm
              refine sS1 (n := 2) (As := [.int (iI j)]) (rest := [.ref (ad 0)]) ⟨hx, hb, hml, hown, hts⟩ (x_wordLetter l hfl D cy ad M h sl tx j (by omega) (by omega)) gL_isWell_L_wordLetter rfl (by decide +kernel) ⟨Nat.le_of_ble_eq_true rfl, Nat.le_of_ble_eq_true rfl⟩ hK hT hC hZ hA rfl hl.1 rfl (Nat.le_of_ble_eq_true rfl) dL_isWell_249 ⟨show (((cl4 + 1) + 1) + 1) + 1 ≤ 400 by omega, show (((sl4 + 6 * 1) + 6 * 1) + 6 * 1) + 6 * 1 ≤ 2400 by omega⟩ hI hS (fun H locs hI hS => ?_)
              have hI : SR D cy A ad (M, h, sl, tx) H := hI
              refine z_top (show (gl M.2.1 j.toNat) = iI ((gl M.2.1 j.toNat).toInt) from (iI_of _).symm) ?_
              refine sS1 (n := 2) (As := [.int (iI ((gl M.2.1 j.toNat).toInt))]) (rest := []) ⟨hx, hb, hml, hown, hts⟩ (x_last l hfl D cy ad M h sl tx ((gl M.2.1 j.toNat).toInt) (by omega)) gL_isWell_L_last rfl (by decide +kernel) ⟨Nat.le_of_ble_eq_true rfl, Nat.le_of_ble_eq_true rfl⟩ hK hT hC hZ hA rfl hl.1 rfl (Nat.le_of_ble_eq_true rfl) dL_isWell_252 ⟨show ((((cl4 + 1) + 1) + 1) + 1) + 1 ≤ 400 by omega, show ((((sl4 + 6 * 1) + 6 * 1) + 6 * 1) + 6 * 1) + 6 * 1 ≤ 2400 by omega⟩ hI hS (fun H locs hI hS => ?_)
              have hI : SR D cy A ad (M, h, sl, tx) H := hI
              refine lv_iload hx hb dL_isWell_255 (lv_at hl 0 rfl) ?_
              refine z_icmp_lt (tgt := 264) hx hb (iI_t (by omega) (by omega)) (iI_t (by omega) (by omega)) dL_isWell_257 (by decide) (fun c14 => absurd c14 (by omega)) (fun c14 => ?_)
              refine lv_iconst (v := iI 1) hx hb dL_isWell_260 rfl ?_
              refine lv_goto (tgt := 265) hx hb dL_isWell_261 (by decide) ?_
              refine lv_istore_n (lv' := [(3, .int (iI 1)), (4, .int (iI j)), (0, .ref (ad 0)), (1, .int (iI (M.1.length : Int))), (2, .int (iI (M.2.1.length : Int)))]) hx hb dL_isWell_265 rfl hl (by decide) rfl (fun ls hl => ?_)
              refine z_iinc (lv' := [(4, .int (iI (j + 1))), (3, .int (iI 1)), (0, .ref (ad 0)), (1, .int (iI (M.1.length : Int))), (2, .int (iI (M.2.1.length : Int)))]) hx hb dL_isWell_266 hl (k := 1) rfl (by decide) rfl (fun ls hl => ?_)
              refine lv_goto (tgt := 210) hx hb dL_isWell_269 (by decide) ?_
              exact ih4 (((((cl4 + 1) + 1) + 1) + 1) + 1) (((((sl4 + 6 * 1) + 6 * 1) + 6 * 1) + 6 * 1) + 6 * 1) (j + 1) (by omega) (by omega) (by omega) _ _ _ hI hS (lv_sub hl [0, 2, 3, 4, 1] rfl)
        exact hloop4 (Int.toNat ((M.2.1.length : Int) - 0) + 1) cl1 sl1 0 (by omega) (by omega) (by omega) _ _ _ hI hS (lv_sub hl [0, 1, 2, 3, 4] rfl)
      · --
        refine lv_iload_n hx hb dL_isWell_142 rfl (lv_at hl 4 rfl) ?_
        refine z_if_eq (tgt := 199) hx hb (iI_t (by omega) (by omega)) dL_isWell_143 (by decide) (fun c15 => absurd c15 (by omega)) (fun _ => ?_)
        refine lv_aload_n hx hb dL_isWell_146 rfl (lv_at hl 1 rfl) ?_
        refine lv_aload_n hx hb dL_isWell_147 rfl (lv_at hl 1 rfl) ?_
        refine lv_iload hx hb dL_isWell_148 (lv_at hl 0 rfl) ?_
        have hf := hMI.fnd (k := k.toNat) (by omega)
        have hm0 := hMI.m_pos (by omega)
        refine sS1 (n := 2) (As := [.int (iI k)]) (rest := [.ref (ad 0)]) ⟨hx, hb, hml, hown, hts⟩ (x_found0 l hfl D cy ad M h sl tx k (by omega) (by omega)) gL_isWell_L_found rfl (by decide +kernel) ⟨Nat.le_of_ble_eq_true rfl, Nat.le_of_ble_eq_true rfl⟩ hK hT hC hZ hA rfl hl.1 rfl (Nat.le_of_ble_eq_true rfl) dL_isWell_150 ⟨show cl1 + 1 ≤ 400 by omega, show sl1 + 6 * 1 ≤ 2400 by omega⟩ hI hS (fun H locs hI hS => ?_)
        have hI : SR D cy A ad (M, h, sl, tx) H := hI
        refine z_top (show (gl M.2.2.1 k.toNat) = iI ((gl M.2.2.1 (k).toNat).toInt) from (iI_of _).symm) ?_
        refine sS1 (n := 2) (As := [.int (iI ((gl M.2.2.1 (k).toNat).toInt))]) (rest := []) ⟨hx, hb, hml, hown, hts⟩ (x_diff0 l hfl D cy ad M h sl tx ((gl M.2.2.1 (k).toNat).toInt) (by omega) (by omega) (hm0)) gL_isWell_L_difference rfl (by decide +kernel) ⟨Nat.le_of_ble_eq_true rfl, Nat.le_of_ble_eq_true rfl⟩ hK hT hC hZ hA rfl hl.1 rfl (Nat.le_of_ble_eq_true rfl) dL_isWell_153 ⟨show (cl1 + 1) + 1 ≤ 400 by omega, show (sl1 + 6 * 1) + 6 * 1 ≤ 2400 by omega⟩ hI hS (fun H locs hI hS => ?_)
        have hI : SR D cy A ad (M, h, sl, tx) H := hI
        refine z_top (show (iI (mD M ((gl M.2.2.1 (k).toNat).toInt))) = iI (-1) from congrArg iI hf.2.2.2.1) ?_
        refine lv_iconst (v := iI (-1)) hx hb dL_isWell_156 rfl ?_
        refine z_icmp_ne (tgt := 199) hx hb (iI_t (by omega) (by omega)) (iI_t (by omega) (by omega)) dL_isWell_157 (by decide) (fun c18 => absurd c18 (by omega)) (fun _ => ?_)
        refine lv_iload hx hb dL_isWell_160 (lv_at hl 0 rfl) ?_
        refine z_if_eq (tgt := 182) hx hb (iI_t (by omega) (by omega)) dL_isWell_162 (by decide) (fun c19 => ?_) (fun c19 => ?_)
        · --
          refine lv_aload_n hx hb dL_isWell_182 rfl (lv_at hl 1 rfl) ?_
          refine lv_iload hx hb dL_isWell_183 (lv_at hl 0 rfl) ?_
          refine sS1 (n := 2) (As := [.int (iI k)]) (rest := []) ⟨hx, hb, hml, hown, hts⟩ (x_found0 l hfl D cy ad M h sl tx k (by omega) (by omega)) gL_isWell_L_found rfl (by decide +kernel) ⟨Nat.le_of_ble_eq_true rfl, Nat.le_of_ble_eq_true rfl⟩ hK hT hC hZ hA rfl hl.1 rfl (Nat.le_of_ble_eq_true rfl) dL_isWell_185 ⟨show ((cl1 + 1) + 1) + 1 ≤ 400 by omega, show ((sl1 + 6 * 1) + 6 * 1) + 6 * 1 ≤ 2400 by omega⟩ hI hS (fun H locs hI hS => ?_)
          have hI : SR D cy A ad (M, h, sl, tx) H := hI
          refine z_top (show (gl M.2.2.1 k.toNat) = iI ((gl M.2.2.1 (k).toNat).toInt) from (iI_of _).symm) ?_
          refine lv_aload_n hx hb dL_isWell_188 rfl (lv_at hl 1 rfl) ?_
          refine sV1 (n := 0) (As := []) (rest := [.int (iI ((gl M.2.2.1 (k).toNat).toInt))]) ⟨hx, hb, hml, hown, hts⟩ (x_place l D cy ad M h sl tx  ) gL_isWell_X4_place rfl (by decide +kernel) ⟨Nat.le_of_ble_eq_true rfl, Nat.le_of_ble_eq_true rfl⟩ hK hT hA rfl hl.1 rfl (Nat.le_of_ble_eq_true rfl) dL_isWell_189 ⟨show (((cl1 + 1) + 1) + 1) ≤ 400 by omega, show (((sl1 + 6 * 1) + 6 * 1) + 6 * 1) ≤ 2400 by omega⟩ hI hS (fun H locs hI hS => ?_)
          have hI : SR D cy A ad (M, h, sl, tx) H := hI
          refine z_top (show (iI M.2.2.2.2.2.1) = iI M.2.2.2.2.2.1 from rfl) ?_
          refine z_icmp_ge (tgt := 199) hx hb (iI_t (by omega) (by omega)) (iI_t (by omega) (by omega)) dL_isWell_192 (by decide) (fun c22 => absurd c22 (by omega)) (fun c22 => ?_)
          refine lv_iconst (v := iI 1) hx hb dL_isWell_195 rfl ?_
          refine lv_goto (tgt := 200) hx hb dL_isWell_196 (by decide) ?_
          refine lv_istore_n (lv' := [(3, .int (iI 1)), (4, .int (iI k)), (0, .ref (ad 0)), (1, .int (iI (M.1.length : Int))), (2, .int (iI (M.2.1.length : Int)))]) hx hb dL_isWell_200 rfl hl (by decide) rfl (fun ls hl => ?_)
          refine z_iinc (lv' := [(4, .int (iI (k + 1))), (3, .int (iI 1)), (0, .ref (ad 0)), (1, .int (iI (M.1.length : Int))), (2, .int (iI (M.2.1.length : Int)))]) hx hb dL_isWell_201 hl (k := 1) rfl (by decide) rfl (fun ls hl => ?_)
          refine lv_goto (tgt := 133) hx hb dL_isWell_204 (by decide) ?_
          exact ih1 (((cl1 + 1) + 1) + 1) (((sl1 + 6 * 1) + 6 * 1) + 6 * 1) (k + 1) (by omega) (by omega) (by omega) _ _ _ hI hS (lv_sub hl [0, 2, 3, 4, 1] rfl)
        · --
          refine lv_aload_n hx hb dL_isWell_165 rfl (lv_at hl 1 rfl) ?_
          refine lv_iload hx hb dL_isWell_166 (lv_at hl 0 rfl) ?_
          refine sS1 (n := 2) (As := [.int (iI k)]) (rest := []) ⟨hx, hb, hml, hown, hts⟩ (x_found0 l hfl D cy ad M h sl tx k (by omega) (by omega)) gL_isWell_L_found rfl (by decide +kernel) ⟨Nat.le_of_ble_eq_true rfl, Nat.le_of_ble_eq_true rfl⟩ hK hT hC hZ hA rfl hl.1 rfl (Nat.le_of_ble_eq_true rfl) dL_isWell_168 ⟨show ((cl1 + 1) + 1) + 1 ≤ 400 by omega, show ((sl1 + 6 * 1) + 6 * 1) + 6 * 1 ≤ 2400 by omega⟩ hI hS (fun H locs hI hS => ?_)
          have hI : SR D cy A ad (M, h, sl, tx) H := hI
          refine z_top (show (gl M.2.2.1 k.toNat) = iI ((gl M.2.2.1 (k).toNat).toInt) from (iI_of _).symm) ?_
          refine lv_aload_n hx hb dL_isWell_171 rfl (lv_at hl 1 rfl) ?_
          refine lv_iload hx hb dL_isWell_172 (lv_at hl 0 rfl) ?_
          refine lv_iconst (v := iI 1) hx hb dL_isWell_174 rfl ?_
          refine z_sub hx hb dL_isWell_175 ?_
          have hf5 := hf.2.2.2.2 (k - 1).toNat (by omega)
          have hf6 := hMI.fnd (k := (k - 1).toNat) (by omega)
          refine sS1 (n := 2) (As := [.int (iI (k - 1))]) (rest := [.int (iI ((gl M.2.2.1 (k).toNat).toInt))]) ⟨hx, hb, hml, hown, hts⟩ (x_found0 l hfl D cy ad M h sl tx (k - 1) (by omega) (by omega)) gL_isWell_L_found rfl (by decide +kernel) ⟨Nat.le_of_ble_eq_true rfl, Nat.le_of_ble_eq_true rfl⟩ hK hT hC hZ hA rfl hl.1 rfl (Nat.le_of_ble_eq_true rfl) dL_isWell_176 ⟨show (((cl1 + 1) + 1) + 1) + 1 ≤ 400 by omega, show (((sl1 + 6 * 1) + 6 * 1) + 6 * 1) + 6 * 1 ≤ 2400 by omega⟩ hI hS (fun H locs hI hS => ?_)
          have hI : SR D cy A ad (M, h, sl, tx) H := hI
          refine z_top (show (gl M.2.2.1 (k - 1).toNat) = iI ((gl M.2.2.1 (k - 1).toNat).toInt) from (iI_of _).symm) ?_
          refine z_icmp_le (tgt := 199) hx hb (iI_t (by omega) (by omega)) (iI_t (by omega) (by omega)) dL_isWell_179 (by decide) (fun c25 => absurd c25 (by omega)) (fun c25 => ?_)
          refine lv_aload_n hx hb dL_isWell_182 rfl (lv_at hl 1 rfl) ?_
          refine lv_iload hx hb dL_isWell_183 (lv_at hl 0 rfl) ?_
          refine sS1 (n := 2) (As := [.int (iI k)]) (rest := []) ⟨hx, hb, hml, hown, hts⟩ (x_found0 l hfl D cy ad M h sl tx k (by omega) (by omega)) gL_isWell_L_found rfl (by decide +kernel) ⟨Nat.le_of_ble_eq_true rfl, Nat.le_of_ble_eq_true rfl⟩ hK hT hC hZ hA rfl hl.1 rfl (Nat.le_of_ble_eq_true rfl) dL_isWell_185 ⟨show ((((cl1 + 1) + 1) + 1) + 1) + 1 ≤ 400 by omega, show ((((sl1 + 6 * 1) + 6 * 1) + 6 * 1) + 6 * 1) + 6 * 1 ≤ 2400 by omega⟩ hI hS (fun H locs hI hS => ?_)
          have hI : SR D cy A ad (M, h, sl, tx) H := hI
          refine z_top (show (gl M.2.2.1 k.toNat) = iI ((gl M.2.2.1 (k).toNat).toInt) from (iI_of _).symm) ?_
          refine lv_aload_n hx hb dL_isWell_188 rfl (lv_at hl 1 rfl) ?_
          refine sV1 (n := 0) (As := []) (rest := [.int (iI ((gl M.2.2.1 (k).toNat).toInt))]) ⟨hx, hb, hml, hown, hts⟩ (x_place l D cy ad M h sl tx  ) gL_isWell_X4_place rfl (by decide +kernel) ⟨Nat.le_of_ble_eq_true rfl, Nat.le_of_ble_eq_true rfl⟩ hK hT hA rfl hl.1 rfl (Nat.le_of_ble_eq_true rfl) dL_isWell_189 ⟨show (((((cl1 + 1) + 1) + 1) + 1) + 1) ≤ 400 by omega, show (((((sl1 + 6 * 1) + 6 * 1) + 6 * 1) + 6 * 1) + 6 * 1) ≤ 2400 by omega⟩ hI hS (fun H locs hI hS => ?_)
          have hI : SR D cy A ad (M, h, sl, tx) H := hI
          refine z_top (show (iI M.2.2.2.2.2.1) = iI M.2.2.2.2.2.1 from rfl) ?_
          refine z_icmp_ge (tgt := 199) hx hb (iI_t (by omega) (by omega)) (iI_t (by omega) (by omega)) dL_isWell_192 (by decide) (fun c28 => absurd c28 (by omega)) (fun c28 => ?_)
          refine lv_iconst (v := iI 1) hx hb dL_isWell_195 rfl ?_
          refine lv_goto (tgt := 200) hx hb dL_isWell_196 (by decide) ?_
          refine lv_istore_n (lv' := [(3, .int (iI 1)), (4, .int (iI k)), (0, .ref (ad 0)), (1, .int (iI (M.1.length : Int))), (2, .int (iI (M.2.1.length : Int)))]) hx hb dL_isWell_200 rfl hl (by decide) rfl (fun ls hl => ?_)
          refine z_iinc (lv' := [(4, .int (iI (k + 1))), (3, .int (iI 1)), (0, .ref (ad 0)), (1, .int (iI (M.1.length : Int))), (2, .int (iI (M.2.1.length : Int)))]) hx hb dL_isWell_201 hl (k := 1) rfl (by decide) rfl (fun ls hl => ?_)
          refine lv_goto (tgt := 133) hx hb dL_isWell_204 (by decide) ?_
          exact ih1 (((((cl1 + 1) + 1) + 1) + 1) + 1) (((((sl1 + 6 * 1) + 6 * 1) + 6 * 1) + 6 * 1) + 6 * 1) (k + 1) (by omega) (by omega) (by omega) _ _ _ hI hS (lv_sub hl [0, 2, 3, 4, 1] rfl)
  exact hloop1 (Int.toNat ((M.2.2.1.length : Int) - 0) + 1) 0 0 0 (by omega) (by omega) (by omega) _ _ _ hI hS (lv_sub hl [0, 1, 2, 3, 4] rfl)
set_option maxHeartbeats 8000000 in
set_option maxRecDepth 100000 in
theorem iw_49 {p : Program} {l : Launch} {e : Env} {s : State} {m : MethodId} {args : Array Value} {below : List Frame} {meth : Method} {c : Code} {A : Nat → Prop} {Q : State → Prop} {D : va_G} {cy : Nat → ClassId} {ad ae : Nat → Nat} (C : KCW p l s m args c A D cy) {M : MS} {h : List MS} {sl : Nat → Option MS} {tx : List Int32} (kend : KEW p l e s m args below meth c A Q D cy ad ae M h sl tx) (hMI : Inv M) {H : Heap} {locs : List Loc} {ls : Array Slot} (hI : SR D cy A ad (M, h, sl, tx) H) (hS : va_S A s.heap H locs) (hl : lv_has ls 5 [(0, .ref (ad 0)), (1, .int (iI (M.1.length : Int))), (2, .int (iI (M.2.1.length : Int)))]) : W p l e ({ frames := 10, cells := 400, slots := 6 * 400, locals := 300 } : Room) s m args below meth c H locs 0 0 Q (F0 m 49 ls []) := by
  obtain ⟨hx, hb, hml, hown, hts, hK, hT, hC, hZ, hA, hfl⟩ := id C
  have hM := hMI.1
  have hn := hM.nums
  have hoc := occ_rng hM
  have hle := hMI.occ_le
  have hnu := hMI.num
  have hlk := hM.lk
  have hmu : M.2.2.2.2.2.2.1 * (M.2.1.length : Int) ≤ 100 * 16 := Int.mul_le_mul (by omega) (by omega) (by omega) (by omega)
  refine lv_aload_n hx hb dL_isWell_49 rfl (lv_at hl 0 rfl) ?_
  refine sV1 (n := 0) (As := []) (rest := []) ⟨hx, hb, hml, hown, hts⟩ (x_foundCount l D cy ad M h sl tx  ) gL_isWell_X4_foundCount rfl (by decide +kernel) ⟨Nat.le_of_ble_eq_true rfl, Nat.le_of_ble_eq_true rfl⟩ hK hT hA rfl hl.1 rfl (Nat.le_of_ble_eq_true rfl) dL_isWell_50 ⟨show 0 ≤ 400 by omega, show 0 ≤ 2400 by omega⟩ hI hS (fun H locs hI hS => ?_)
  have hI : SR D cy A ad (M, h, sl, tx) H := hI
  refine lv_aload_n hx hb dL_isWell_53 rfl (lv_at hl 0 rfl) ?_
  refine sV1 (n := 0) (As := []) (rest := [.int (iI (M.2.2.1.length : Int))]) ⟨hx, hb, hml, hown, hts⟩ (x_occurrences l D cy ad M h sl tx  ) gL_isWell_X4_occurrences rfl (by decide +kernel) ⟨Nat.le_of_ble_eq_true rfl, Nat.le_of_ble_eq_true rfl⟩ hK hT hA rfl hl.1 rfl (Nat.le_of_ble_eq_true rfl) dL_isWell_54 ⟨show 0 ≤ 400 by omega, show 0 ≤ 2400 by omega⟩ hI hS (fun H locs hI hS => ?_)
  have hI : SR D cy A ad (M, h, sl, tx) H := hI
  refine z_icmp_gt (tgt := 128) hx hb (iI_t (by omega) (by omega)) (iI_t (by omega) (by omega)) dL_isWell_57 (by decide) (fun c3 => absurd c3 (by omega)) (fun c3 => ?_)
  refine lv_aload_n hx hb dL_isWell_60 rfl (lv_at hl 0 rfl) ?_
  refine sV1 (n := 0) (As := []) (rest := []) ⟨hx, hb, hml, hown, hts⟩ (x_occurrences l D cy ad M h sl tx  ) gL_isWell_X4_occurrences rfl (by decide +kernel) ⟨Nat.le_of_ble_eq_true rfl, Nat.le_of_ble_eq_true rfl⟩ hK hT hA rfl hl.1 rfl (Nat.le_of_ble_eq_true rfl) dL_isWell_61 ⟨show 0 ≤ 400 by omega, show 0 ≤ 2400 by omega⟩ hI hS (fun H locs hI hS => ?_)
  have hI : SR D cy A ad (M, h, sl, tx) H := hI
  refine lv_aload_n hx hb dL_isWell_64 rfl (lv_at hl 0 rfl) ?_
  refine sV1 (n := 0) (As := []) (rest := [.int (iI (occF M))]) ⟨hx, hb, hml, hown, hts⟩ (x_occurrencesByTrying l D cy ad M h sl tx  ) gL_isWell_X4_occurrencesByTrying rfl (by decide +kernel) ⟨Nat.le_of_ble_eq_true rfl, Nat.le_of_ble_eq_true rfl⟩ hK hT hA rfl hl.1 rfl (Nat.le_of_ble_eq_true rfl) dL_isWell_65 ⟨show 0 ≤ 400 by omega, show 0 ≤ 2400 by omega⟩ hI hS (fun H locs hI hS => ?_)
  have hI : SR D cy A ad (M, h, sl, tx) H := hI
  refine z_icmp_ne (tgt := 128) hx hb (iI_t (by omega) (by omega)) (iI_t (by omega) (by omega)) dL_isWell_68 (by decide) (fun c6 => absurd c6 (by omega)) (fun c6 => ?_)
  refine lv_aload_n hx hb dL_isWell_71 rfl (lv_at hl 0 rfl) ?_
  refine sV1 (n := 0) (As := []) (rest := []) ⟨hx, hb, hml, hown, hts⟩ (x_lookCount l D cy ad M h sl tx  ) gL_isWell_X4_lookCount rfl (by decide +kernel) ⟨Nat.le_of_ble_eq_true rfl, Nat.le_of_ble_eq_true rfl⟩ hK hT hA rfl hl.1 rfl (Nat.le_of_ble_eq_true rfl) dL_isWell_72 ⟨show 0 ≤ 400 by omega, show 0 ≤ 2400 by omega⟩ hI hS (fun H locs hI hS => ?_)
  have hI : SR D cy A ad (M, h, sl, tx) H := hI
  refine lv_aload_n hx hb dL_isWell_75 rfl (lv_at hl 0 rfl) ?_
  refine sV1 (n := 0) (As := []) (rest := [.int (iI M.2.2.2.2.2.2.1)]) ⟨hx, hb, hml, hown, hts⟩ (x_comparedCount l D cy ad M h sl tx  ) gL_isWell_X4_comparedCount rfl (by decide +kernel) ⟨Nat.le_of_ble_eq_true rfl, Nat.le_of_ble_eq_true rfl⟩ hK hT hA rfl hl.1 rfl (Nat.le_of_ble_eq_true rfl) dL_isWell_76 ⟨show 0 ≤ 400 by omega, show 0 ≤ 2400 by omega⟩ hI hS (fun H locs hI hS => ?_)
  have hI : SR D cy A ad (M, h, sl, tx) H := hI
  refine z_icmp_gt (tgt := 128) hx hb (iI_t (by omega) (by omega)) (iI_t (by omega) (by omega)) dL_isWell_79 (by decide) (fun c9 => absurd c9 (by omega)) (fun c9 => ?_)
  refine lv_aload_n hx hb dL_isWell_82 rfl (lv_at hl 0 rfl) ?_
  refine sV1 (n := 0) (As := []) (rest := []) ⟨hx, hb, hml, hown, hts⟩ (x_comparedCount l D cy ad M h sl tx  ) gL_isWell_X4_comparedCount rfl (by decide +kernel) ⟨Nat.le_of_ble_eq_true rfl, Nat.le_of_ble_eq_true rfl⟩ hK hT hA rfl hl.1 rfl (Nat.le_of_ble_eq_true rfl) dL_isWell_83 ⟨show 0 ≤ 400 by omega, show 0 ≤ 2400 by omega⟩ hI hS (fun H locs hI hS => ?_)
  have hI : SR D cy A ad (M, h, sl, tx) H := hI
  refine lv_aload_n hx hb dL_isWell_86 rfl (lv_at hl 0 rfl) ?_
  refine sV1 (n := 0) (As := []) (rest := [.int (iI M.2.2.2.2.2.2.2)]) ⟨hx, hb, hml, hown, hts⟩ (x_lookCount l D cy ad M h sl tx  ) gL_isWell_X4_lookCount rfl (by decide +kernel) ⟨Nat.le_of_ble_eq_true rfl, Nat.le_of_ble_eq_true rfl⟩ hK hT hA rfl hl.1 rfl (Nat.le_of_ble_eq_true rfl) dL_isWell_87 ⟨show 0 ≤ 400 by omega, show 0 ≤ 2400 by omega⟩ hI hS (fun H locs hI hS => ?_)
  have hI : SR D cy A ad (M, h, sl, tx) H := hI
  refine lv_iload_n hx hb dL_isWell_90 rfl (lv_at hl 2 rfl) ?_
  refine z_mul hx hb dL_isWell_91 ?_
  refine z_icmp_gt (tgt := 128) hx hb (iI_t (by omega) (by omega)) (iI_t (by omega) (by omega)) dL_isWell_92 (by decide) (fun c12 => absurd c12 (by omega)) (fun c12 => ?_)
  refine lv_aload_n hx hb dL_isWell_95 rfl (lv_at hl 0 rfl) ?_
  refine sV1 (n := 0) (As := []) (rest := []) ⟨hx, hb, hml, hown, hts⟩ (x_skippedPlaces l D cy ad M h sl tx  ) gL_isWell_X4_skippedPlaces rfl (by decide +kernel) ⟨Nat.le_of_ble_eq_true rfl, Nat.le_of_ble_eq_true rfl⟩ hK hT hA rfl hl.1 rfl (Nat.le_of_ble_eq_true rfl) dL_isWell_96 ⟨show 0 ≤ 400 by omega, show 0 ≤ 2400 by omega⟩ hI hS (fun H locs hI hS => ?_)
  have hI : SR D cy A ad (M, h, sl, tx) H := hI
  refine z_if_lt (tgt := 128) hx hb (iI_t (by omega) (by omega)) dL_isWell_99 (by decide) (fun c14 => absurd c14 (by omega)) (fun c14 => ?_)
  by_cases ho : mOver M
  · --
    have ho2 : (M.2.1.length : Int) = 0 ∨ (M.1.length : Int) - (M.2.1.length : Int) + 1 ≤ M.2.2.2.2.2.1 := ho
    refine lv_aload_n hx hb dL_isWell_102 rfl (lv_at hl 0 rfl) ?_
    refine sV1 (n := 0) (As := []) (rest := []) ⟨hx, hb, hml, hown, hts⟩ (x_isOver1 l D cy ad M h sl tx  (ho)) gL_isWell_X4_isOver rfl (by decide +kernel) ⟨Nat.le_of_ble_eq_true rfl, Nat.le_of_ble_eq_true rfl⟩ hK hT hA rfl hl.1 rfl (Nat.le_of_ble_eq_true rfl) dL_isWell_103 ⟨show 0 ≤ 400 by omega, show 0 ≤ 2400 by omega⟩ hI hS (fun H locs hI hS => ?_)
    have hI : SR D cy A ad (M, h, sl, tx) H := hI
    refine z_if_eq (tgt := 124) hx hb (iI_t (by omega) (by omega)) dL_isWell_106 (by decide) (fun c16 => absurd c16 (by omega)) (fun _ => ?_)
    refine lv_iload_n hx hb dL_isWell_109 rfl (lv_at hl 2 rfl) ?_
    refine z_if_eq (tgt := 124) hx hb (iI_t (by omega) (by omega)) dL_isWell_110 (by decide) (fun c17 => ?_) (fun c17 => ?_)
    · --
      refine lv_iconst (v := iI 1) hx hb dL_isWell_124 rfl ?_
      refine lv_goto (tgt := 129) hx hb dL_isWell_125 (by decide) ?_
      refine lv_istore_n (lv' := [(3, .int (iI 1)), (0, .ref (ad 0)), (1, .int (iI (M.1.length : Int))), (2, .int (iI (M.2.1.length : Int)))]) hx hb dL_isWell_129 rfl hl (by decide) rfl (fun ls hl => ?_)
      exact iw_130 C kend hMI hI hS (lv_sub hl [1, 2, 3, 0] rfl)
    · --
      refine lv_aload_n hx hb dL_isWell_113 rfl (lv_at hl 0 rfl) ?_
      have heq := hMI.occ_eq ho (by omega)
      refine sV1 (n := 0) (As := []) (rest := []) ⟨hx, hb, hml, hown, hts⟩ (x_foundCount l D cy ad M h sl tx  ) gL_isWell_X4_foundCount rfl (by decide +kernel) ⟨Nat.le_of_ble_eq_true rfl, Nat.le_of_ble_eq_true rfl⟩ hK hT hA rfl hl.1 rfl (Nat.le_of_ble_eq_true rfl) dL_isWell_114 ⟨show 0 ≤ 400 by omega, show 0 ≤ 2400 by omega⟩ hI hS (fun H locs hI hS => ?_)
      have hI : SR D cy A ad (M, h, sl, tx) H := hI
      refine lv_aload_n hx hb dL_isWell_117 rfl (lv_at hl 0 rfl) ?_
      refine sV1 (n := 0) (As := []) (rest := [.int (iI (M.2.2.1.length : Int))]) ⟨hx, hb, hml, hown, hts⟩ (x_occurrences l D cy ad M h sl tx  ) gL_isWell_X4_occurrences rfl (by decide +kernel) ⟨Nat.le_of_ble_eq_true rfl, Nat.le_of_ble_eq_true rfl⟩ hK hT hA rfl hl.1 rfl (Nat.le_of_ble_eq_true rfl) dL_isWell_118 ⟨show 0 ≤ 400 by omega, show 0 ≤ 2400 by omega⟩ hI hS (fun H locs hI hS => ?_)
      have hI : SR D cy A ad (M, h, sl, tx) H := hI
      refine z_icmp_ne (tgt := 128) hx hb (iI_t (by omega) (by omega)) (iI_t (by omega) (by omega)) dL_isWell_121 (by decide) (fun c20 => absurd c20 (by omega)) (fun c20 => ?_)
      refine lv_iconst (v := iI 1) hx hb dL_isWell_124 rfl ?_
      refine lv_goto (tgt := 129) hx hb dL_isWell_125 (by decide) ?_
      refine lv_istore_n (lv' := [(3, .int (iI 1)), (0, .ref (ad 0)), (1, .int (iI (M.1.length : Int))), (2, .int (iI (M.2.1.length : Int)))]) hx hb dL_isWell_129 rfl hl (by decide) rfl (fun ls hl => ?_)
      exact iw_130 C kend hMI hI hS (lv_sub hl [1, 2, 3, 0] rfl)
  · --
    have ho2 : ¬ ((M.2.1.length : Int) = 0 ∨ (M.1.length : Int) - (M.2.1.length : Int) + 1 ≤ M.2.2.2.2.2.1) := ho
    refine lv_aload_n hx hb dL_isWell_102 rfl (lv_at hl 0 rfl) ?_
    refine sV1 (n := 0) (As := []) (rest := []) ⟨hx, hb, hml, hown, hts⟩ (x_isOver0 l D cy ad M h sl tx  (ho)) gL_isWell_X4_isOver rfl (by decide +kernel) ⟨Nat.le_of_ble_eq_true rfl, Nat.le_of_ble_eq_true rfl⟩ hK hT hA rfl hl.1 rfl (Nat.le_of_ble_eq_true rfl) dL_isWell_103 ⟨show 0 ≤ 400 by omega, show 0 ≤ 2400 by omega⟩ hI hS (fun H locs hI hS => ?_)
    have hI : SR D cy A ad (M, h, sl, tx) H := hI
    refine z_if_eq (tgt := 124) hx hb (iI_t (by omega) (by omega)) dL_isWell_106 (by decide) (fun _ => ?_) (fun c22 => absurd c22 (by omega))
    refine lv_iconst (v := iI 1) hx hb dL_isWell_124 rfl ?_
    refine lv_goto (tgt := 129) hx hb dL_isWell_125 (by decide) ?_
    refine lv_istore_n (lv' := [(3, .int (iI 1)), (0, .ref (ad 0)), (1, .int (iI (M.1.length : Int))), (2, .int (iI (M.2.1.length : Int)))]) hx hb dL_isWell_129 rfl hl (by decide) rfl (fun ls hl => ?_)
    exact iw_130 C kend hMI hI hS (lv_sub hl [1, 2, 3, 0] rfl)
set_option maxHeartbeats 8000000 in
set_option maxRecDepth 100000 in
theorem iw_0 {p : Program} {l : Launch} {e : Env} {s : State} {m : MethodId} {args : Array Value} {below : List Frame} {meth : Method} {c : Code} {A : Nat → Prop} {Q : State → Prop} {D : va_G} {cy : Nat → ClassId} {ad ae : Nat → Nat} (C : KCW p l s m args c A D cy) {M : MS} {h : List MS} {sl : Nat → Option MS} {tx : List Int32} (kend : KEW p l e s m args below meth c A Q D cy ad ae M h sl tx) (hMI : Inv M) {H : Heap} {locs : List Loc} {ls : Array Slot} (hI : SR D cy A ad (M, h, sl, tx) H) (hS : va_S A s.heap H locs) (hl : lv_has ls 5 [(0, .ref (ad 0))]) : W p l e ({ frames := 10, cells := 400, slots := 6 * 400, locals := 300 } : Room) s m args below meth c H locs 0 0 Q (F0 m 0 ls []) := by
  obtain ⟨hx, hb, hml, hown, hts, hK, hT, hC, hZ, hA, hfl⟩ := id C
  have hM := hMI.1
  have hn := hM.nums
  have hpr := per_rng0 M
  refine lv_aload_n hx hb dL_isWell_0 rfl (lv_at hl 0 rfl) ?_
  refine sV1 (n := 0) (As := []) (rest := []) ⟨hx, hb, hml, hown, hts⟩ (x_lineLength l D cy ad M h sl tx  ) gL_isWell_X4_lineLength rfl (by decide +kernel) ⟨Nat.le_of_ble_eq_true rfl, Nat.le_of_ble_eq_true rfl⟩ hK hT hA rfl hl.1 rfl (Nat.le_of_ble_eq_true rfl) dL_isWell_1 ⟨show 0 ≤ 400 by omega, show 0 ≤ 2400 by omega⟩ hI hS (fun H locs hI hS => ?_)
  have hI : SR D cy A ad (M, h, sl, tx) H := hI
  refine lv_istore_n (lv' := [(1, .int (iI (M.1.length : Int))), (0, .ref (ad 0))]) hx hb dL_isWell_4 rfl hl (by decide) rfl (fun ls hl => ?_)
  refine lv_aload_n hx hb dL_isWell_5 rfl (lv_at hl 1 rfl) ?_
  refine sV1 (n := 0) (As := []) (rest := []) ⟨hx, hb, hml, hown, hts⟩ (x_wordLength l D cy ad M h sl tx  ) gL_isWell_X4_wordLength rfl (by decide +kernel) ⟨Nat.le_of_ble_eq_true rfl, Nat.le_of_ble_eq_true rfl⟩ hK hT hA rfl hl.1 rfl (Nat.le_of_ble_eq_true rfl) dL_isWell_6 ⟨show 0 ≤ 400 by omega, show 0 ≤ 2400 by omega⟩ hI hS (fun H locs hI hS => ?_)
  have hI : SR D cy A ad (M, h, sl, tx) H := hI
  refine lv_istore_n (lv' := [(2, .int (iI (M.2.1.length : Int))), (1, .int (iI (M.1.length : Int))), (0, .ref (ad 0))]) hx hb dL_isWell_9 rfl hl (by decide) rfl (fun ls hl => ?_)
  refine lv_aload_n hx hb dL_isWell_10 rfl (lv_at hl 2 rfl) ?_
  refine sV1 (n := 0) (As := []) (rest := []) ⟨hx, hb, hml, hown, hts⟩ (x_border l D cy ad M h sl tx  ) gL_isWell_X4_border rfl (by decide +kernel) ⟨Nat.le_of_ble_eq_true rfl, Nat.le_of_ble_eq_true rfl⟩ hK hT hA rfl hl.1 rfl (Nat.le_of_ble_eq_true rfl) dL_isWell_11 ⟨show 0 ≤ 400 by omega, show 0 ≤ 2400 by omega⟩ hI hS (fun H locs hI hS => ?_)
  have hI : SR D cy A ad (M, h, sl, tx) H := hI
  refine lv_aload_n hx hb dL_isWell_14 rfl (lv_at hl 2 rfl) ?_
  refine sV1 (n := 0) (As := []) (rest := [.int (iI ((M.2.1.length : Int) - (perF M.2.1.length (gl M.2.1) : Int)))]) ⟨hx, hb, hml, hown, hts⟩ (x_period l D cy ad M h sl tx  ) gL_isWell_X4_period rfl (by decide +kernel) ⟨Nat.le_of_ble_eq_true rfl, Nat.le_of_ble_eq_true rfl⟩ hK hT hA rfl hl.1 rfl (Nat.le_of_ble_eq_true rfl) dL_isWell_15 ⟨show 0 ≤ 400 by omega, show 0 ≤ 2400 by omega⟩ hI hS (fun H locs hI hS => ?_)
  have hI : SR D cy A ad (M, h, sl, tx) H := hI
  refine z_add hx hb dL_isWell_18 ?_
  refine lv_iload_n hx hb dL_isWell_19 rfl (lv_at hl 0 rfl) ?_
  refine z_icmp_ne (tgt := 128) hx hb (iI_t (by omega) (by omega)) (iI_t (by omega) (by omega)) dL_isWell_20 (by decide) (fun c5 => absurd c5 (by omega)) (fun c5 => ?_)
  by_cases ho : mOver M
  · --
    have ho2 : (M.2.1.length : Int) = 0 ∨ (M.1.length : Int) - (M.2.1.length : Int) + 1 ≤ M.2.2.2.2.2.1 := ho
    refine lv_aload_n hx hb dL_isWell_23 rfl (lv_at hl 2 rfl) ?_
    refine sV1 (n := 0) (As := []) (rest := []) ⟨hx, hb, hml, hown, hts⟩ (x_isOver1 l D cy ad M h sl tx  (ho)) gL_isWell_X4_isOver rfl (by decide +kernel) ⟨Nat.le_of_ble_eq_true rfl, Nat.le_of_ble_eq_true rfl⟩ hK hT hA rfl hl.1 rfl (Nat.le_of_ble_eq_true rfl) dL_isWell_24 ⟨show 0 ≤ 400 by omega, show 0 ≤ 2400 by omega⟩ hI hS (fun H locs hI hS => ?_)
    have hI : SR D cy A ad (M, h, sl, tx) H := hI
    refine lv_iload_n hx hb dL_isWell_27 rfl (lv_at hl 0 rfl) ?_
    refine z_if_eq (tgt := 41) hx hb (iI_t (by omega) (by omega)) dL_isWell_28 (by decide) (fun c7 => ?_) (fun c7 => ?_)
    · --
      refine lv_iconst (v := iI 1) hx hb dL_isWell_41 rfl ?_
      refine lv_goto (tgt := 46) hx hb dL_isWell_42 (by decide) ?_
      refine z_icmp_ne (tgt := 128) hx hb (iI_t (by omega) (by omega)) (iI_t (by omega) (by omega)) dL_isWell_46 (by decide) (fun c8 => absurd c8 (by omega)) (fun _ => ?_)
      exact iw_49 C kend hMI hI hS (lv_sub hl [2, 1, 0] rfl)
    · --
      refine lv_aload_n hx hb dL_isWell_31 rfl (lv_at hl 2 rfl) ?_
      refine sV1 (n := 0) (As := []) (rest := [.int (iI 1)]) ⟨hx, hb, hml, hown, hts⟩ (x_place l D cy ad M h sl tx  ) gL_isWell_X4_place rfl (by decide +kernel) ⟨Nat.le_of_ble_eq_true rfl, Nat.le_of_ble_eq_true rfl⟩ hK hT hA rfl hl.1 rfl (Nat.le_of_ble_eq_true rfl) dL_isWell_32 ⟨show 0 ≤ 400 by omega, show 0 ≤ 2400 by omega⟩ hI hS (fun H locs hI hS => ?_)
      have hI : SR D cy A ad (M, h, sl, tx) H := hI
      refine lv_iload_n hx hb dL_isWell_35 rfl (lv_at hl 0 rfl) ?_
      refine z_add hx hb dL_isWell_36 ?_
      refine lv_iload_n hx hb dL_isWell_37 rfl (lv_at hl 1 rfl) ?_
      refine z_icmp_le (tgt := 45) hx hb (iI_t (by omega) (by omega)) (iI_t (by omega) (by omega)) dL_isWell_38 (by decide) (fun c10 => absurd c10 (by omega)) (fun c10 => ?_)
      refine lv_iconst (v := iI 1) hx hb dL_isWell_41 rfl ?_
      refine lv_goto (tgt := 46) hx hb dL_isWell_42 (by decide) ?_
      refine z_icmp_ne (tgt := 128) hx hb (iI_t (by omega) (by omega)) (iI_t (by omega) (by omega)) dL_isWell_46 (by decide) (fun c11 => absurd c11 (by omega)) (fun _ => ?_)
      exact iw_49 C kend hMI hI hS (lv_sub hl [2, 1, 0] rfl)
  · --
    have ho2 : ¬ ((M.2.1.length : Int) = 0 ∨ (M.1.length : Int) - (M.2.1.length : Int) + 1 ≤ M.2.2.2.2.2.1) := ho
    refine lv_aload_n hx hb dL_isWell_23 rfl (lv_at hl 2 rfl) ?_
    refine sV1 (n := 0) (As := []) (rest := []) ⟨hx, hb, hml, hown, hts⟩ (x_isOver0 l D cy ad M h sl tx  (ho)) gL_isWell_X4_isOver rfl (by decide +kernel) ⟨Nat.le_of_ble_eq_true rfl, Nat.le_of_ble_eq_true rfl⟩ hK hT hA rfl hl.1 rfl (Nat.le_of_ble_eq_true rfl) dL_isWell_24 ⟨show 0 ≤ 400 by omega, show 0 ≤ 2400 by omega⟩ hI hS (fun H locs hI hS => ?_)
    have hI : SR D cy A ad (M, h, sl, tx) H := hI
    refine lv_iload_n hx hb dL_isWell_27 rfl (lv_at hl 0 rfl) ?_
    refine z_if_eq (tgt := 41) hx hb (iI_t (by omega) (by omega)) dL_isWell_28 (by decide) (fun c13 => absurd c13 (by omega)) (fun c13 => ?_)
    refine lv_aload_n hx hb dL_isWell_31 rfl (lv_at hl 2 rfl) ?_
    refine sV1 (n := 0) (As := []) (rest := [.int (iI 0)]) ⟨hx, hb, hml, hown, hts⟩ (x_place l D cy ad M h sl tx  ) gL_isWell_X4_place rfl (by decide +kernel) ⟨Nat.le_of_ble_eq_true rfl, Nat.le_of_ble_eq_true rfl⟩ hK hT hA rfl hl.1 rfl (Nat.le_of_ble_eq_true rfl) dL_isWell_32 ⟨show 0 ≤ 400 by omega, show 0 ≤ 2400 by omega⟩ hI hS (fun H locs hI hS => ?_)
    have hI : SR D cy A ad (M, h, sl, tx) H := hI
    refine lv_iload_n hx hb dL_isWell_35 rfl (lv_at hl 0 rfl) ?_
    refine z_add hx hb dL_isWell_36 ?_
    refine lv_iload_n hx hb dL_isWell_37 rfl (lv_at hl 1 rfl) ?_
    refine z_icmp_le (tgt := 45) hx hb (iI_t (by omega) (by omega)) (iI_t (by omega) (by omega)) dL_isWell_38 (by decide) (fun c15 => ?_) (fun c15 => absurd c15 (by omega))
    refine lv_iconst (v := iI 0) hx hb dL_isWell_45 rfl ?_
    refine z_icmp_ne (tgt := 128) hx hb (iI_t (by omega) (by omega)) (iI_t (by omega) (by omega)) dL_isWell_46 (by decide) (fun c16 => absurd c16 (by omega)) (fun _ => ?_)
    exact iw_49 C kend hMI hI hS (lv_sub hl [2, 1, 0] rfl)
set_option maxHeartbeats 8000000 in
set_option maxRecDepth 100000 in
theorem c_L_isWell (l : Launch) (hfl : l.stackTraces = false) (D : va_G) (cy : Nat → ClassId) (ad : Nat → Nat) (M : MS) (h : List MS) (sl : Nat → Option MS) (tx : List Int32) (hMI : Inv M) : XNi l D cy ad yL_isWell wsL_isWell 10 300 400 [] (M, h, sl, tx) (iI 1) (M, h, sl, tx) := by
  intro u J
  refine Nc_of (cc := cL_isWell) (maxL := 5) (ret := (some .boolean)) (by decide) rfl rfl ?_
  intro p e s m args below meth c A hx hb hr hts hown hlocks hml hP hK hD hT hC hZ hA ls hl
  have hS : va_S A s.heap s.heap [] := va_S.rf
  have hl : lv_has ls 5 [(0, .ref (ad 0))] := hl
  have hI : SR D cy A ad (M, h, sl, tx) s.heap := ⟨u, J, hP, hD⟩
  have C : KCW p l s m args c A D cy := ⟨hx, hb, hml, hown, hts, hK, hT, hC, hZ, hA, hfl⟩
  refine iw_0 (ae := ad) C ?_ hMI hI hS hl
  intro pc ls H locs c1 s1 hd hI hS q1 q2
  obtain ⟨u1, j1, hP, hD⟩ := hI
  refine W.widen (k := 400) (n := 6 * 400) q1 q2 ?_
  exact z_zret hx hb hr hlocks (by decide +kernel) hS u1 ⟨rfl, j1⟩ hP hd

