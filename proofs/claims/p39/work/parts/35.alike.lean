theorem dL_areAlike_0 : decode cL_areAlike 0 = .ok (.aload_n 0, 1) := by decide +kernel
theorem dL_areAlike_1 : decode cL_areAlike 1 = .ok (.invokevirtual 80, 3) := by decide +kernel
theorem dL_areAlike_4 : decode cL_areAlike 4 = .ok (.aload_n 1, 1) := by decide +kernel
theorem dL_areAlike_5 : decode cL_areAlike 5 = .ok (.invokevirtual 80, 3) := by decide +kernel
theorem dL_areAlike_8 : decode cL_areAlike 8 = .ok (.if_icmp .ne 117, 3) := by decide +kernel
theorem dL_areAlike_11 : decode cL_areAlike 11 = .ok (.aload_n 0, 1) := by decide +kernel
theorem dL_areAlike_12 : decode cL_areAlike 12 = .ok (.invokevirtual 118, 3) := by decide +kernel
theorem dL_areAlike_15 : decode cL_areAlike 15 = .ok (.aload_n 1, 1) := by decide +kernel
theorem dL_areAlike_16 : decode cL_areAlike 16 = .ok (.invokevirtual 118, 3) := by decide +kernel
theorem dL_areAlike_19 : decode cL_areAlike 19 = .ok (.if_icmp .ne 106, 3) := by decide +kernel
theorem dL_areAlike_22 : decode cL_areAlike 22 = .ok (.aload_n 0, 1) := by decide +kernel
theorem dL_areAlike_23 : decode cL_areAlike 23 = .ok (.invokevirtual 93, 3) := by decide +kernel
theorem dL_areAlike_26 : decode cL_areAlike 26 = .ok (.aload_n 1, 1) := by decide +kernel
theorem dL_areAlike_27 : decode cL_areAlike 27 = .ok (.invokevirtual 93, 3) := by decide +kernel
theorem dL_areAlike_30 : decode cL_areAlike 30 = .ok (.if_icmp .ne 95, 3) := by decide +kernel
theorem dL_areAlike_33 : decode cL_areAlike 33 = .ok (.aload_n 0, 1) := by decide +kernel
theorem dL_areAlike_34 : decode cL_areAlike 34 = .ok (.invokevirtual 96, 3) := by decide +kernel
theorem dL_areAlike_37 : decode cL_areAlike 37 = .ok (.aload_n 1, 1) := by decide +kernel
theorem dL_areAlike_38 : decode cL_areAlike 38 = .ok (.invokevirtual 96, 3) := by decide +kernel
theorem dL_areAlike_41 : decode cL_areAlike 41 = .ok (.if_icmp .ne 84, 3) := by decide +kernel
theorem dL_areAlike_44 : decode cL_areAlike 44 = .ok (.aload_n 0, 1) := by decide +kernel
theorem dL_areAlike_45 : decode cL_areAlike 45 = .ok (.invokevirtual 146, 3) := by decide +kernel
theorem dL_areAlike_48 : decode cL_areAlike 48 = .ok (.aload_n 1, 1) := by decide +kernel
theorem dL_areAlike_49 : decode cL_areAlike 49 = .ok (.invokevirtual 146, 3) := by decide +kernel
theorem dL_areAlike_52 : decode cL_areAlike 52 = .ok (.if_icmp .ne 73, 3) := by decide +kernel
theorem dL_areAlike_55 : decode cL_areAlike 55 = .ok (.aload_n 0, 1) := by decide +kernel
theorem dL_areAlike_56 : decode cL_areAlike 56 = .ok (.invokevirtual 121, 3) := by decide +kernel
theorem dL_areAlike_59 : decode cL_areAlike 59 = .ok (.aload_n 1, 1) := by decide +kernel
theorem dL_areAlike_60 : decode cL_areAlike 60 = .ok (.invokevirtual 121, 3) := by decide +kernel
theorem dL_areAlike_63 : decode cL_areAlike 63 = .ok (.if_icmp .ne 62, 3) := by decide +kernel
theorem dL_areAlike_66 : decode cL_areAlike 66 = .ok (.aload_n 0, 1) := by decide +kernel
theorem dL_areAlike_67 : decode cL_areAlike 67 = .ok (.invokevirtual 149, 3) := by decide +kernel
theorem dL_areAlike_70 : decode cL_areAlike 70 = .ok (.aload_n 1, 1) := by decide +kernel
theorem dL_areAlike_71 : decode cL_areAlike 71 = .ok (.invokevirtual 149, 3) := by decide +kernel
theorem dL_areAlike_74 : decode cL_areAlike 74 = .ok (.if_icmp .ne 51, 3) := by decide +kernel
theorem dL_areAlike_77 : decode cL_areAlike 77 = .ok (.aload_n 0, 1) := by decide +kernel
theorem dL_areAlike_78 : decode cL_areAlike 78 = .ok (.invokevirtual 152, 3) := by decide +kernel
theorem dL_areAlike_81 : decode cL_areAlike 81 = .ok (.aload_n 1, 1) := by decide +kernel
theorem dL_areAlike_82 : decode cL_areAlike 82 = .ok (.invokevirtual 152, 3) := by decide +kernel
theorem dL_areAlike_85 : decode cL_areAlike 85 = .ok (.if_icmp .ne 40, 3) := by decide +kernel
theorem dL_areAlike_88 : decode cL_areAlike 88 = .ok (.aload_n 0, 1) := by decide +kernel
theorem dL_areAlike_89 : decode cL_areAlike 89 = .ok (.invokevirtual 143, 3) := by decide +kernel
theorem dL_areAlike_92 : decode cL_areAlike 92 = .ok (.aload_n 1, 1) := by decide +kernel
theorem dL_areAlike_93 : decode cL_areAlike 93 = .ok (.invokevirtual 143, 3) := by decide +kernel
theorem dL_areAlike_96 : decode cL_areAlike 96 = .ok (.if_icmp .ne 29, 3) := by decide +kernel
theorem dL_areAlike_99 : decode cL_areAlike 99 = .ok (.aload_n 0, 1) := by decide +kernel
theorem dL_areAlike_100 : decode cL_areAlike 100 = .ok (.invokevirtual 104, 3) := by decide +kernel
theorem dL_areAlike_103 : decode cL_areAlike 103 = .ok (.aload_n 1, 1) := by decide +kernel
theorem dL_areAlike_104 : decode cL_areAlike 104 = .ok (.invokevirtual 155, 3) := by decide +kernel
theorem dL_areAlike_107 : decode cL_areAlike 107 = .ok (.if_icmp .ne 18, 3) := by decide +kernel
theorem dL_areAlike_110 : decode cL_areAlike 110 = .ok (.aload_n 0, 1) := by decide +kernel
theorem dL_areAlike_111 : decode cL_areAlike 111 = .ok (.invokevirtual 158, 3) := by decide +kernel
theorem dL_areAlike_114 : decode cL_areAlike 114 = .ok (.aload_n 1, 1) := by decide +kernel
theorem dL_areAlike_115 : decode cL_areAlike 115 = .ok (.invokevirtual 158, 3) := by decide +kernel
theorem dL_areAlike_118 : decode cL_areAlike 118 = .ok (.if_icmp .ne 7, 3) := by decide +kernel
theorem dL_areAlike_121 : decode cL_areAlike 121 = .ok (.iconst 1, 1) := by decide +kernel
theorem dL_areAlike_122 : decode cL_areAlike 122 = .ok (.goto 4, 3) := by decide +kernel
theorem dL_areAlike_125 : decode cL_areAlike 125 = .ok (.iconst 0, 1) := by decide +kernel
theorem dL_areAlike_126 : decode cL_areAlike 126 = .ok (.istore_n 2, 1) := by decide +kernel
theorem dL_areAlike_127 : decode cL_areAlike 127 = .ok (.iconst 0, 1) := by decide +kernel
theorem dL_areAlike_128 : decode cL_areAlike 128 = .ok (.istore_n 3, 1) := by decide +kernel
theorem dL_areAlike_129 : decode cL_areAlike 129 = .ok (.iload_n 3, 1) := by decide +kernel
theorem dL_areAlike_130 : decode cL_areAlike 130 = .ok (.aload_n 0, 1) := by decide +kernel
theorem dL_areAlike_131 : decode cL_areAlike 131 = .ok (.invokevirtual 80, 3) := by decide +kernel
theorem dL_areAlike_134 : decode cL_areAlike 134 = .ok (.if_icmp .ge 61, 3) := by decide +kernel
theorem dL_areAlike_137 : decode cL_areAlike 137 = .ok (.iload_n 2, 1) := by decide +kernel
theorem dL_areAlike_138 : decode cL_areAlike 138 = .ok (.ifCond .eq 49, 3) := by decide +kernel
theorem dL_areAlike_141 : decode cL_areAlike 141 = .ok (.aload_n 0, 1) := by decide +kernel
theorem dL_areAlike_142 : decode cL_areAlike 142 = .ok (.iload_n 3, 1) := by decide +kernel
theorem dL_areAlike_143 : decode cL_areAlike 143 = .ok (.invokestatic 99, 3) := by decide +kernel
theorem dL_areAlike_146 : decode cL_areAlike 146 = .ok (.bipush 25, 2) := by decide +kernel
theorem dL_areAlike_148 : decode cL_areAlike 148 = .ok (.aload_n 1, 1) := by decide +kernel
theorem dL_areAlike_149 : decode cL_areAlike 149 = .ok (.iload_n 3, 1) := by decide +kernel
theorem dL_areAlike_150 : decode cL_areAlike 150 = .ok (.invokestatic 99, 3) := by decide +kernel
theorem dL_areAlike_153 : decode cL_areAlike 153 = .ok (.isub, 1) := by decide +kernel
theorem dL_areAlike_154 : decode cL_areAlike 154 = .ok (.if_icmp .ne 33, 3) := by decide +kernel
theorem dL_areAlike_157 : decode cL_areAlike 157 = .ok (.aload_n 0, 1) := by decide +kernel
theorem dL_areAlike_158 : decode cL_areAlike 158 = .ok (.iload_n 3, 1) := by decide +kernel
theorem dL_areAlike_159 : decode cL_areAlike 159 = .ok (.invokestatic 138, 3) := by decide +kernel
theorem dL_areAlike_162 : decode cL_areAlike 162 = .ok (.aload_n 1, 1) := by decide +kernel
theorem dL_areAlike_163 : decode cL_areAlike 163 = .ok (.iload_n 3, 1) := by decide +kernel
theorem dL_areAlike_164 : decode cL_areAlike 164 = .ok (.invokestatic 138, 3) := by decide +kernel
theorem dL_areAlike_167 : decode cL_areAlike 167 = .ok (.if_icmp .ne 20, 3) := by decide +kernel
theorem dL_areAlike_170 : decode cL_areAlike 170 = .ok (.aload_n 0, 1) := by decide +kernel
theorem dL_areAlike_171 : decode cL_areAlike 171 = .ok (.iload_n 3, 1) := by decide +kernel
theorem dL_areAlike_172 : decode cL_areAlike 172 = .ok (.invokestatic 161, 3) := by decide +kernel
theorem dL_areAlike_175 : decode cL_areAlike 175 = .ok (.aload_n 1, 1) := by decide +kernel
theorem dL_areAlike_176 : decode cL_areAlike 176 = .ok (.iload_n 3, 1) := by decide +kernel
theorem dL_areAlike_177 : decode cL_areAlike 177 = .ok (.invokestatic 161, 3) := by decide +kernel
theorem dL_areAlike_180 : decode cL_areAlike 180 = .ok (.if_icmp .ne 7, 3) := by decide +kernel
theorem dL_areAlike_183 : decode cL_areAlike 183 = .ok (.iconst 1, 1) := by decide +kernel
theorem dL_areAlike_184 : decode cL_areAlike 184 = .ok (.goto 4, 3) := by decide +kernel
theorem dL_areAlike_187 : decode cL_areAlike 187 = .ok (.iconst 0, 1) := by decide +kernel
theorem dL_areAlike_188 : decode cL_areAlike 188 = .ok (.istore_n 2, 1) := by decide +kernel
theorem dL_areAlike_189 : decode cL_areAlike 189 = .ok (.iinc 3 1, 3) := by decide +kernel
theorem dL_areAlike_192 : decode cL_areAlike 192 = .ok (.goto (-63), 3) := by decide +kernel
theorem dL_areAlike_195 : decode cL_areAlike 195 = .ok (.iconst 0, 1) := by decide +kernel
theorem dL_areAlike_196 : decode cL_areAlike 196 = .ok (.istore_n 3, 1) := by decide +kernel
theorem dL_areAlike_197 : decode cL_areAlike 197 = .ok (.iload_n 3, 1) := by decide +kernel
theorem dL_areAlike_198 : decode cL_areAlike 198 = .ok (.aload_n 0, 1) := by decide +kernel
theorem dL_areAlike_199 : decode cL_areAlike 199 = .ok (.invokevirtual 118, 3) := by decide +kernel
theorem dL_areAlike_202 : decode cL_areAlike 202 = .ok (.if_icmp .ge 66, 3) := by decide +kernel
theorem dL_areAlike_205 : decode cL_areAlike 205 = .ok (.iload_n 2, 1) := by decide +kernel
theorem dL_areAlike_206 : decode cL_areAlike 206 = .ok (.ifCond .eq 54, 3) := by decide +kernel
theorem dL_areAlike_209 : decode cL_areAlike 209 = .ok (.aload_n 0, 1) := by decide +kernel
theorem dL_areAlike_210 : decode cL_areAlike 210 = .ok (.iload_n 3, 1) := by decide +kernel
theorem dL_areAlike_211 : decode cL_areAlike 211 = .ok (.invokestatic 164, 3) := by decide +kernel
theorem dL_areAlike_214 : decode cL_areAlike 214 = .ok (.bipush 25, 2) := by decide +kernel
theorem dL_areAlike_216 : decode cL_areAlike 216 = .ok (.aload_n 1, 1) := by decide +kernel
theorem dL_areAlike_217 : decode cL_areAlike 217 = .ok (.iload_n 3, 1) := by decide +kernel
theorem dL_areAlike_218 : decode cL_areAlike 218 = .ok (.invokestatic 164, 3) := by decide +kernel
theorem dL_areAlike_221 : decode cL_areAlike 221 = .ok (.isub, 1) := by decide +kernel
theorem dL_areAlike_222 : decode cL_areAlike 222 = .ok (.if_icmp .ne 38, 3) := by decide +kernel
theorem dL_areAlike_225 : decode cL_areAlike 225 = .ok (.aload_n 0, 1) := by decide +kernel
theorem dL_areAlike_226 : decode cL_areAlike 226 = .ok (.iload_n 3, 1) := by decide +kernel
theorem dL_areAlike_227 : decode cL_areAlike 227 = .ok (.invokestatic 166, 3) := by decide +kernel
theorem dL_areAlike_230 : decode cL_areAlike 230 = .ok (.aload_n 1, 1) := by decide +kernel
theorem dL_areAlike_231 : decode cL_areAlike 231 = .ok (.iload_n 3, 1) := by decide +kernel
theorem dL_areAlike_232 : decode cL_areAlike 232 = .ok (.invokestatic 168, 3) := by decide +kernel
theorem dL_areAlike_235 : decode cL_areAlike 235 = .ok (.if_icmp .ne 25, 3) := by decide +kernel
theorem dL_areAlike_238 : decode cL_areAlike 238 = .ok (.aload_n 0, 1) := by decide +kernel
theorem dL_areAlike_239 : decode cL_areAlike 239 = .ok (.iload_n 3, 1) := by decide +kernel
theorem dL_areAlike_240 : decode cL_areAlike 240 = .ok (.iload_n 3, 1) := by decide +kernel
theorem dL_areAlike_241 : decode cL_areAlike 241 = .ok (.invokestatic 171, 3) := by decide +kernel
theorem dL_areAlike_244 : decode cL_areAlike 244 = .ok (.aload_n 1, 1) := by decide +kernel
theorem dL_areAlike_245 : decode cL_areAlike 245 = .ok (.iload_n 3, 1) := by decide +kernel
theorem dL_areAlike_246 : decode cL_areAlike 246 = .ok (.bipush 25, 2) := by decide +kernel
theorem dL_areAlike_248 : decode cL_areAlike 248 = .ok (.iload_n 3, 1) := by decide +kernel
theorem dL_areAlike_249 : decode cL_areAlike 249 = .ok (.isub, 1) := by decide +kernel
theorem dL_areAlike_250 : decode cL_areAlike 250 = .ok (.invokestatic 171, 3) := by decide +kernel
theorem dL_areAlike_253 : decode cL_areAlike 253 = .ok (.if_icmp .ne 7, 3) := by decide +kernel
theorem dL_areAlike_256 : decode cL_areAlike 256 = .ok (.iconst 1, 1) := by decide +kernel
theorem dL_areAlike_257 : decode cL_areAlike 257 = .ok (.goto 4, 3) := by decide +kernel
theorem dL_areAlike_260 : decode cL_areAlike 260 = .ok (.iconst 0, 1) := by decide +kernel
theorem dL_areAlike_261 : decode cL_areAlike 261 = .ok (.istore_n 2, 1) := by decide +kernel
theorem dL_areAlike_262 : decode cL_areAlike 262 = .ok (.iinc 3 1, 3) := by decide +kernel
theorem dL_areAlike_265 : decode cL_areAlike 265 = .ok (.goto (-68), 3) := by decide +kernel
theorem dL_areAlike_268 : decode cL_areAlike 268 = .ok (.iconst 0, 1) := by decide +kernel
theorem dL_areAlike_269 : decode cL_areAlike 269 = .ok (.istore_n 3, 1) := by decide +kernel
theorem dL_areAlike_270 : decode cL_areAlike 270 = .ok (.iload_n 3, 1) := by decide +kernel
theorem dL_areAlike_271 : decode cL_areAlike 271 = .ok (.bipush 26, 2) := by decide +kernel
theorem dL_areAlike_273 : decode cL_areAlike 273 = .ok (.if_icmp .ge 35, 3) := by decide +kernel
theorem dL_areAlike_276 : decode cL_areAlike 276 = .ok (.iload_n 2, 1) := by decide +kernel
theorem dL_areAlike_277 : decode cL_areAlike 277 = .ok (.ifCond .eq 23, 3) := by decide +kernel
theorem dL_areAlike_280 : decode cL_areAlike 280 = .ok (.aload_n 0, 1) := by decide +kernel
theorem dL_areAlike_281 : decode cL_areAlike 281 = .ok (.iload_n 3, 1) := by decide +kernel
theorem dL_areAlike_282 : decode cL_areAlike 282 = .ok (.invokestatic 173, 3) := by decide +kernel
theorem dL_areAlike_285 : decode cL_areAlike 285 = .ok (.aload_n 1, 1) := by decide +kernel
theorem dL_areAlike_286 : decode cL_areAlike 286 = .ok (.bipush 25, 2) := by decide +kernel
theorem dL_areAlike_288 : decode cL_areAlike 288 = .ok (.iload_n 3, 1) := by decide +kernel
theorem dL_areAlike_289 : decode cL_areAlike 289 = .ok (.isub, 1) := by decide +kernel
theorem dL_areAlike_290 : decode cL_areAlike 290 = .ok (.invokestatic 173, 3) := by decide +kernel
theorem dL_areAlike_293 : decode cL_areAlike 293 = .ok (.if_icmp .ne 7, 3) := by decide +kernel
theorem dL_areAlike_296 : decode cL_areAlike 296 = .ok (.iconst 1, 1) := by decide +kernel
theorem dL_areAlike_297 : decode cL_areAlike 297 = .ok (.goto 4, 3) := by decide +kernel
theorem dL_areAlike_300 : decode cL_areAlike 300 = .ok (.iconst 0, 1) := by decide +kernel
theorem dL_areAlike_301 : decode cL_areAlike 301 = .ok (.istore_n 2, 1) := by decide +kernel
theorem dL_areAlike_302 : decode cL_areAlike 302 = .ok (.iinc 3 1, 3) := by decide +kernel
theorem dL_areAlike_305 : decode cL_areAlike 305 = .ok (.goto (-35), 3) := by decide +kernel
theorem dL_areAlike_308 : decode cL_areAlike 308 = .ok (.iload_n 2, 1) := by decide +kernel
theorem dL_areAlike_309 : decode cL_areAlike 309 = .ok (.ifCond .eq 52, 3) := by decide +kernel
theorem dL_areAlike_312 : decode cL_areAlike 312 = .ok (.aload_n 0, 1) := by decide +kernel
theorem dL_areAlike_313 : decode cL_areAlike 313 = .ok (.iconst 1, 1) := by decide +kernel
theorem dL_areAlike_314 : decode cL_areAlike 314 = .ok (.iconst 1, 1) := by decide +kernel
theorem dL_areAlike_315 : decode cL_areAlike 315 = .ok (.invokevirtual 176, 3) := by decide +kernel
theorem dL_areAlike_318 : decode cL_areAlike 318 = .ok (.aload_n 1, 1) := by decide +kernel
theorem dL_areAlike_319 : decode cL_areAlike 319 = .ok (.iconst 1, 1) := by decide +kernel
theorem dL_areAlike_320 : decode cL_areAlike 320 = .ok (.iconst 1, 1) := by decide +kernel
theorem dL_areAlike_321 : decode cL_areAlike 321 = .ok (.invokevirtual 176, 3) := by decide +kernel
theorem dL_areAlike_324 : decode cL_areAlike 324 = .ok (.if_icmp .ne 37, 3) := by decide +kernel
theorem dL_areAlike_327 : decode cL_areAlike 327 = .ok (.aload_n 0, 1) := by decide +kernel
theorem dL_areAlike_328 : decode cL_areAlike 328 = .ok (.iconst 0, 1) := by decide +kernel
theorem dL_areAlike_329 : decode cL_areAlike 329 = .ok (.iconst 1, 1) := by decide +kernel
theorem dL_areAlike_330 : decode cL_areAlike 330 = .ok (.invokevirtual 176, 3) := by decide +kernel
theorem dL_areAlike_333 : decode cL_areAlike 333 = .ok (.aload_n 1, 1) := by decide +kernel
theorem dL_areAlike_334 : decode cL_areAlike 334 = .ok (.iconst 0, 1) := by decide +kernel
theorem dL_areAlike_335 : decode cL_areAlike 335 = .ok (.iconst 1, 1) := by decide +kernel
theorem dL_areAlike_336 : decode cL_areAlike 336 = .ok (.invokevirtual 176, 3) := by decide +kernel
theorem dL_areAlike_339 : decode cL_areAlike 339 = .ok (.if_icmp .ne 22, 3) := by decide +kernel
theorem dL_areAlike_342 : decode cL_areAlike 342 = .ok (.aload_n 0, 1) := by decide +kernel
theorem dL_areAlike_343 : decode cL_areAlike 343 = .ok (.iconst 1, 1) := by decide +kernel
theorem dL_areAlike_344 : decode cL_areAlike 344 = .ok (.iconst 0, 1) := by decide +kernel
theorem dL_areAlike_345 : decode cL_areAlike 345 = .ok (.invokevirtual 176, 3) := by decide +kernel
theorem dL_areAlike_348 : decode cL_areAlike 348 = .ok (.aload_n 1, 1) := by decide +kernel
theorem dL_areAlike_349 : decode cL_areAlike 349 = .ok (.iconst 1, 1) := by decide +kernel
theorem dL_areAlike_350 : decode cL_areAlike 350 = .ok (.iconst 0, 1) := by decide +kernel
theorem dL_areAlike_351 : decode cL_areAlike 351 = .ok (.invokevirtual 176, 3) := by decide +kernel
theorem dL_areAlike_354 : decode cL_areAlike 354 = .ok (.if_icmp .ne 7, 3) := by decide +kernel
theorem dL_areAlike_357 : decode cL_areAlike 357 = .ok (.iconst 1, 1) := by decide +kernel
theorem dL_areAlike_358 : decode cL_areAlike 358 = .ok (.goto 4, 3) := by decide +kernel
theorem dL_areAlike_361 : decode cL_areAlike 361 = .ok (.iconst 0, 1) := by decide +kernel
theorem dL_areAlike_362 : decode cL_areAlike 362 = .ok (.ireturn, 1) := by decide +kernel
set_option maxRecDepth 20000 in
theorem ggL_areAlike_X4_lineLength : GoodIn wsL_areAlike wsX4_lineLength := goodIn_r _ [5, 6, 7, 8, 9, 10, 11, 12, 284, 285, 286, 287, 288, 289, 290, 291, 292, 293, 294, 295, 296, 297, 298, 299, 300] (by decide +kernel) (by decide +kernel)
set_option maxRecDepth 20000 in
theorem gL_areAlike_X4_lineLength : GoodIn wsL_areAlike (wsV RL 80 RX4 yX4_lineLength wsX4_lineLength) := goodIn_app (goodIn_of _ (by decide +kernel)) ggL_areAlike_X4_lineLength
set_option maxRecDepth 20000 in
theorem ggL_areAlike_X4_wordLength : GoodIn wsL_areAlike wsX4_wordLength := goodIn_r _ [16, 6, 7, 8, 9, 10, 11, 12, 284, 285, 286, 287, 288, 289, 290, 291, 292, 293, 294, 295, 296, 297, 298, 299, 300] (by decide +kernel) (by decide +kernel)
set_option maxRecDepth 20000 in
theorem gL_areAlike_X4_wordLength : GoodIn wsL_areAlike (wsV RL 118 RX4 yX4_wordLength wsX4_wordLength) := goodIn_app (goodIn_of _ (by decide +kernel)) ggL_areAlike_X4_wordLength
set_option maxRecDepth 20000 in
theorem ggL_areAlike_X4_place : GoodIn wsL_areAlike wsX4_place := goodIn_r _ [20, 6, 284, 285, 286, 287, 288, 289, 290, 291, 292, 293, 294, 295, 296, 297, 298] (by decide +kernel) (by decide +kernel)
set_option maxRecDepth 20000 in
theorem gL_areAlike_X4_place : GoodIn wsL_areAlike (wsV RL 93 RX4 yX4_place wsX4_place) := goodIn_app (goodIn_of _ (by decide +kernel)) ggL_areAlike_X4_place
set_option maxRecDepth 20000 in
theorem ggL_areAlike_X4_lookCount : GoodIn wsL_areAlike wsX4_lookCount := goodIn_r _ [24, 6, 284, 285, 286, 287, 288, 289, 290, 291, 292, 293, 294, 295, 296, 297, 298] (by decide +kernel) (by decide +kernel)
set_option maxRecDepth 20000 in
theorem gL_areAlike_X4_lookCount : GoodIn wsL_areAlike (wsV RL 96 RX4 yX4_lookCount wsX4_lookCount) := goodIn_app (goodIn_of _ (by decide +kernel)) ggL_areAlike_X4_lookCount
set_option maxRecDepth 20000 in
theorem ggL_areAlike_X4_comparedCount : GoodIn wsL_areAlike wsX4_comparedCount := goodIn_r _ [28, 6, 284, 285, 286, 287, 288, 289, 290, 291, 292, 293, 294, 295, 296, 297, 298] (by decide +kernel) (by decide +kernel)
set_option maxRecDepth 20000 in
theorem gL_areAlike_X4_comparedCount : GoodIn wsL_areAlike (wsV RL 146 RX4 yX4_comparedCount wsX4_comparedCount) := goodIn_app (goodIn_of _ (by decide +kernel)) ggL_areAlike_X4_comparedCount
set_option maxRecDepth 20000 in
theorem ggL_areAlike_X4_foundCount : GoodIn wsL_areAlike wsX4_foundCount := goodIn_r _ [32, 6, 7, 8, 9, 10, 11, 12, 284, 285, 286, 287, 288, 289, 290, 291, 292, 293, 294, 295, 296, 297, 298, 299, 300] (by decide +kernel) (by decide +kernel)
set_option maxRecDepth 20000 in
theorem gL_areAlike_X4_foundCount : GoodIn wsL_areAlike (wsV RL 121 RX4 yX4_foundCount wsX4_foundCount) := goodIn_app (goodIn_of _ (by decide +kernel)) ggL_areAlike_X4_foundCount
set_option maxRecDepth 20000 in
theorem ggL_areAlike_X4_skippedPlaces : GoodIn wsL_areAlike wsX4_skippedPlaces := goodIn_r _ [36, 6, 37, 38, 39, 40, 41, 42, 43, 44, 45, 46, 47, 48, 49, 50, 51, 8, 9, 10, 11, 12, 284, 285, 286, 287, 288, 289, 290, 291, 292, 293, 294, 295, 296, 297, 298, 299, 300] (by decide +kernel) (by decide +kernel)
set_option maxRecDepth 20000 in
theorem gL_areAlike_X4_skippedPlaces : GoodIn wsL_areAlike (wsV RL 149 RX4 yX4_skippedPlaces wsX4_skippedPlaces) := goodIn_app (goodIn_of _ (by decide +kernel)) ggL_areAlike_X4_skippedPlaces
set_option maxRecDepth 20000 in
theorem ggL_areAlike_X4_border : GoodIn wsL_areAlike wsX4_border := goodIn_r _ [55, 56, 6, 57, 58, 59, 60, 61, 62, 38, 39, 40, 63, 64, 65, 8, 9, 10, 11, 12, 66, 67, 68, 69, 70, 71, 72, 73, 74, 75, 76, 77, 78, 79, 80, 81, 82, 83, 84, 85, 86, 87, 7, 88, 89, 90, 91, 284, 285, 286, 287, 288, 289, 290, 291, 292, 293, 294, 295, 296, 297, 298, 301, 302, 303, 299, 300] (by decide +kernel) (by decide +kernel)
set_option maxRecDepth 20000 in
theorem gL_areAlike_X4_border : GoodIn wsL_areAlike (wsV RL 152 RX4 yX4_border wsX4_border) := goodIn_app (goodIn_of _ (by decide +kernel)) ggL_areAlike_X4_border
set_option maxRecDepth 20000 in
theorem ggL_areAlike_X4_period : GoodIn wsL_areAlike wsX4_period := goodIn_r _ [95, 56, 6, 57, 58, 59, 60, 61, 62, 38, 39, 40, 63, 64, 65, 8, 9, 10, 11, 12, 66, 67, 68, 69, 70, 71, 72, 73, 74, 75, 76, 77, 78, 79, 80, 81, 82, 83, 84, 85, 86, 87, 88, 89, 90, 91, 284, 285, 286, 287, 288, 289, 290, 291, 292, 293, 294, 295, 296, 297, 298, 301, 302, 303, 299, 300] (by decide +kernel) (by decide +kernel)
set_option maxRecDepth 20000 in
theorem gL_areAlike_X4_period : GoodIn wsL_areAlike (wsV RL 143 RX4 yX4_period wsX4_period) := goodIn_app (goodIn_of _ (by decide +kernel)) ggL_areAlike_X4_period
set_option maxRecDepth 20000 in
theorem ggL_areAlike_X4_occurrences : GoodIn wsL_areAlike wsX4_occurrences := goodIn_r _ [99, 100, 101, 102, 103, 4, 104, 6, 56, 105, 106, 107, 44, 108, 46, 47, 109, 110, 111, 112, 113, 114, 115, 116, 117, 10, 118, 12, 79, 119, 120, 121, 122, 123, 124, 125, 126, 127, 128, 129, 130, 131, 132, 133, 134, 135, 57, 58, 59, 60, 61, 62, 38, 39, 40, 63, 64, 65, 8, 9, 11, 66, 67, 68, 69, 70, 71, 72, 73, 74, 75, 76, 77, 78, 80, 81, 82, 83, 84, 85, 86, 87, 136, 137, 138, 139, 140, 141, 142, 143, 144, 145, 146, 147, 148, 42, 43, 45, 48, 49, 50, 51, 149, 150, 151, 152, 153, 154, 155, 156, 157, 158, 159, 160, 161, 162, 89, 90, 91, 163, 164, 165, 166, 167, 168, 169, 170, 171, 172, 173, 174, 175, 7, 284, 285, 286, 287, 288, 289, 290, 291, 292, 293, 294, 295, 296, 297, 298, 299, 300, 301, 302, 303] (by decide +kernel) (by decide +kernel)
set_option maxRecDepth 20000 in
theorem gL_areAlike_X4_occurrences : GoodIn wsL_areAlike (wsV RL 104 RX4 yX4_occurrences wsX4_occurrences) := goodIn_app (goodIn_of _ (by decide +kernel)) ggL_areAlike_X4_occurrences
set_option maxRecDepth 20000 in
theorem ggL_areAlike_X4_occurrencesByTrying : GoodIn wsL_areAlike wsX4_occurrencesByTrying := goodIn_r _ [179, 6, 180, 145, 146, 10, 147, 12, 41, 42, 43, 44, 45, 46, 47, 48, 49, 39, 50, 51, 8, 9, 11, 181, 182, 183, 4, 184, 7, 185, 76, 77, 78, 79, 80, 81, 82, 83, 284, 285, 286, 287, 288, 289, 290, 291, 292, 293, 294, 295, 296, 297, 298, 299, 300] (by decide +kernel) (by decide +kernel)
set_option maxRecDepth 20000 in
theorem gL_areAlike_X4_occurrencesByTrying : GoodIn wsL_areAlike (wsV RL 155 RX4 yX4_occurrencesByTrying wsX4_occurrencesByTrying) := goodIn_app (goodIn_of _ (by decide +kernel)) ggL_areAlike_X4_occurrencesByTrying
set_option maxRecDepth 20000 in
theorem ggL_areAlike_X4_undoCount : GoodIn wsL_areAlike wsX4_undoCount := goodIn_r _ [189, 190, 191, 192, 193, 194, 195, 196, 284, 285, 286, 287, 288, 289, 290, 304, 305] (by decide +kernel) (by decide +kernel)
set_option maxRecDepth 20000 in
theorem gL_areAlike_X4_undoCount : GoodIn wsL_areAlike (wsV RL 158 RX4 yX4_undoCount wsX4_undoCount) := goodIn_app (goodIn_of _ (by decide +kernel)) ggL_areAlike_X4_undoCount
set_option maxRecDepth 20000 in
theorem ggL_areAlike_L_lineLetter : GoodIn wsL_areAlike wsL_lineLetter := goodIn_ca (goodIn_r _ [200, 201, 202, 203, 204, 205, 4, 206, 6, 207, 208, 209, 210, 211, 212, 81, 82, 10, 83, 12, 185, 76, 77, 78, 79, 80, 284, 285, 286, 287, 288, 289, 290, 291, 292, 293, 294, 295, 296, 297, 298, 299, 300] (by decide +kernel) (by decide +kernel)) (goodIn_sub (fun _ h => List.mem_cons_of_mem _ (List.mem_append_left _ (List.mem_append_left _ (List.mem_append_right _ h)))) (by decide +kernel))
set_option maxRecDepth 20000 in
theorem gL_areAlike_L_lineLetter : GoodIn wsL_areAlike (va_wsS RL 99 yL_lineLetter wsL_lineLetter) := goodIn_app (goodIn_of _ (by decide +kernel)) ggL_areAlike_L_lineLetter
set_option maxRecDepth 20000 in
theorem ggL_areAlike_L_difference : GoodIn wsL_areAlike wsL_difference := goodIn_ca (goodIn_ca (goodIn_r _ [215, 201, 216, 202, 217, 218, 219, 220, 4, 221, 210, 211, 222, 223, 6, 41, 42, 43, 44, 45, 46, 47, 48, 49, 39, 50, 51, 8, 9, 10, 11, 12, 180, 145, 146, 147, 224, 154, 155, 156, 157, 76, 77, 78, 79, 80, 81, 82, 83, 284, 285, 286, 287, 288, 289, 290, 291, 292, 293, 294, 295, 296, 297, 298, 299, 300] (by decide +kernel) (by decide +kernel)) (goodIn_sub (fun _ h => List.mem_cons_of_mem _ (List.mem_append_left _ (List.mem_append_left _ (List.mem_append_right _ h)))) (by decide +kernel))) (goodIn_sub (fun _ h => List.mem_cons_of_mem _ (List.mem_append_left _ (List.mem_append_right _ h))) (by decide +kernel))
set_option maxRecDepth 20000 in
theorem gL_areAlike_L_difference : GoodIn wsL_areAlike (va_wsS RL 138 yL_difference wsL_difference) := goodIn_app (goodIn_of _ (by decide +kernel)) ggL_areAlike_L_difference
set_option maxRecDepth 20000 in
theorem ggL_areAlike_L_found : GoodIn wsL_areAlike wsL_found := goodIn_ca (goodIn_r _ [227, 201, 202, 228, 229, 230, 4, 231, 6, 207, 208, 209, 210, 211, 212, 81, 82, 10, 83, 12, 185, 76, 77, 78, 79, 80, 284, 285, 286, 287, 288, 289, 290, 291, 292, 293, 294, 295, 296, 297, 298, 299, 300] (by decide +kernel) (by decide +kernel)) (goodIn_sub (fun _ h => List.mem_cons_of_mem _ (List.mem_append_left _ (List.mem_append_left _ (List.mem_append_right _ h)))) (by decide +kernel))
set_option maxRecDepth 20000 in
theorem gL_areAlike_L_found : GoodIn wsL_areAlike (va_wsS RL 161 yL_found wsL_found) := goodIn_app (goodIn_of _ (by decide +kernel)) ggL_areAlike_L_found
set_option maxRecDepth 20000 in
theorem ggL_areAlike_L_wordLetter : GoodIn wsL_areAlike wsL_wordLetter := goodIn_ca (goodIn_r _ [234, 201, 202, 235, 236, 237, 4, 238, 6, 207, 208, 209, 210, 211, 212, 81, 82, 10, 83, 12, 185, 76, 77, 78, 79, 80, 284, 285, 286, 287, 288, 289, 290, 291, 292, 293, 294, 295, 296, 297, 298, 299, 300] (by decide +kernel) (by decide +kernel)) (goodIn_sub (fun _ h => List.mem_cons_of_mem _ (List.mem_append_left _ (List.mem_append_left _ (List.mem_append_right _ h)))) (by decide +kernel))
set_option maxRecDepth 20000 in
theorem gL_areAlike_L_wordLetter : GoodIn wsL_areAlike (va_wsS RL 164 yL_wordLetter wsL_wordLetter) := goodIn_app (goodIn_of _ (by decide +kernel)) ggL_areAlike_L_wordLetter
set_option maxRecDepth 20000 in
theorem ggL_areAlike_L_endSkip : GoodIn wsL_areAlike wsL_endSkip := goodIn_ca (goodIn_r _ [241, 201, 202, 242, 243, 244, 4, 245, 6, 56, 207, 208, 209, 210, 211, 212, 81, 82, 10, 83, 12, 57, 58, 59, 60, 61, 62, 38, 39, 40, 63, 64, 65, 8, 9, 11, 66, 67, 68, 69, 70, 71, 72, 73, 74, 75, 76, 77, 78, 79, 80, 84, 85, 86, 87, 246, 172, 173, 174, 284, 285, 286, 287, 288, 289, 290, 291, 292, 293, 294, 295, 296, 297, 298, 299, 300, 301, 302, 303] (by decide +kernel) (by decide +kernel)) (goodIn_sub (fun _ h => List.mem_cons_of_mem _ (List.mem_append_left _ (List.mem_append_left _ (List.mem_append_right _ h)))) (by decide +kernel))
set_option maxRecDepth 20000 in
theorem gL_areAlike_L_endSkip : GoodIn wsL_areAlike (va_wsS RL 166 yL_endSkip wsL_endSkip) := goodIn_app (goodIn_of _ (by decide +kernel)) ggL_areAlike_L_endSkip
set_option maxRecDepth 20000 in
theorem ggL_areAlike_L_endTried : GoodIn wsL_areAlike wsL_endTried := goodIn_ca (goodIn_r _ [249, 201, 202, 250, 251, 252, 4, 253, 6, 207, 208, 209, 210, 211, 212, 81, 82, 10, 83, 12, 7, 8, 9, 11, 254, 255, 256, 257, 49, 39, 50, 185, 76, 77, 78, 79, 80, 284, 285, 286, 287, 288, 289, 290, 291, 292, 293, 294, 295, 296, 297, 298, 299, 300] (by decide +kernel) (by decide +kernel)) (goodIn_sub (fun _ h => List.mem_cons_of_mem _ (List.mem_append_left _ (List.mem_append_left _ (List.mem_append_right _ h)))) (by decide +kernel))
set_option maxRecDepth 20000 in
theorem gL_areAlike_L_endTried : GoodIn wsL_areAlike (va_wsS RL 168 yL_endTried wsL_endTried) := goodIn_app (goodIn_of _ (by decide +kernel)) ggL_areAlike_L_endTried
set_option maxRecDepth 20000 in
theorem ggL_areAlike_L_letterSkip : GoodIn wsL_areAlike wsL_letterSkip := goodIn_ca (goodIn_ca (goodIn_r _ [260, 201, 261, 202, 217, 262, 263, 264, 4, 265, 6, 207, 208, 209, 210, 211, 212, 81, 82, 10, 83, 12, 266, 267, 268, 269, 270, 271, 164, 165, 44, 166, 47, 167, 168, 169, 170, 79, 284, 285, 286, 287, 288, 289, 290, 291, 292, 293, 294, 295, 296, 297, 298, 299, 300] (by decide +kernel) (by decide +kernel)) (goodIn_sub (fun _ h => List.mem_cons_of_mem _ (List.mem_append_left _ (List.mem_append_left _ (List.mem_append_right _ h)))) (by decide +kernel))) (goodIn_sub (fun _ h => List.mem_cons_of_mem _ (List.mem_append_right _ h)) (by decide +kernel))
set_option maxRecDepth 20000 in
theorem gL_areAlike_L_letterSkip : GoodIn wsL_areAlike (va_wsS RL 171 yL_letterSkip wsL_letterSkip) := goodIn_app (goodIn_of _ (by decide +kernel)) ggL_areAlike_L_letterSkip
set_option maxRecDepth 20000 in
theorem ggL_areAlike_L_last : GoodIn wsL_areAlike wsL_last := goodIn_ca (goodIn_r _ [274, 261, 202, 275, 276, 277, 4, 278, 6, 266, 267, 268, 269, 270, 279, 168, 169, 10, 170, 12, 79, 284, 285, 286, 287, 288, 289, 290, 291, 292, 293, 294, 295, 296, 297, 298, 299, 300] (by decide +kernel) (by decide +kernel)) (goodIn_sub (fun _ h => List.mem_cons_of_mem _ (List.mem_append_right _ h)) (by decide +kernel))
set_option maxRecDepth 20000 in
theorem gL_areAlike_L_last : GoodIn wsL_areAlike (va_wsS RL 173 yL_last wsL_last) := goodIn_app (goodIn_of _ (by decide +kernel)) ggL_areAlike_L_last
set_option maxRecDepth 20000 in
theorem ggL_areAlike_X4_comparedWith : GoodIn wsL_areAlike wsX4_comparedWith := goodIn_r _ [283, 100, 101, 102, 103, 4, 104, 6, 56, 105, 106, 107, 44, 108, 46, 47, 109, 110, 111, 112, 113, 114, 115, 116, 117, 10, 118, 12, 79, 119, 120, 121, 122, 123, 124, 125, 126, 127, 128, 129, 130, 131, 132, 133, 134, 135, 57, 58, 59, 60, 61, 62, 38, 39, 40, 63, 64, 65, 8, 9, 11, 66, 67, 68, 69, 70, 71, 72, 73, 74, 75, 76, 77, 78, 80, 81, 82, 83, 84, 85, 86, 87, 136, 137, 138, 139, 140, 141, 142, 143, 144, 145, 146, 147, 148, 42, 43, 45, 48, 49, 50, 51, 149, 150, 151, 152, 153, 154, 155, 156, 157, 158, 159, 160, 161, 162, 89, 90, 91, 163, 164, 165, 166, 167, 168, 169, 170, 171, 172, 173, 174, 175, 284, 285, 286, 287, 288, 289, 290, 291, 292, 293, 294, 295, 296, 297, 298, 299, 300, 301, 302, 303] (by decide +kernel) (by decide +kernel)
set_option maxRecDepth 20000 in
theorem gL_areAlike_X4_comparedWith : GoodIn wsL_areAlike (wsV RL 176 RX4 yX4_comparedWith wsX4_comparedWith) := goodIn_app (goodIn_of _ (by decide +kernel)) ggL_areAlike_X4_comparedWith
/-! areAlike -/
theorem found_mir (M : MS) : (mirM M).2.2 = M.2.2 := rfl
theorem cw_mir {M : MS} (hM : MOk M) {x y : Int} (hxy : 0 ≤ x ∧ x ≤ 1 ∧ 0 ≤ y ∧ y ≤ 1) : mRun (mRules (mirM M) x y) = mRun (mRules M x y) := by
  rw [show mRules (mirM M) x y = mirM (mRules M x y) from rfl, mRun_mir (hM.rules hxy)]
theorem last_mir (M : MS) (a : Int) : lastF (mirM M).2.1.length (gl (mirM M).2.1) (iI (25 - a)) = lastF M.2.1.length (gl M.2.1) (iI a) := by
  rw [← iI_sub]
  exact lastW_mir M.2.1 (iI a)
def KCA (p : Program) (l : Launch) (s : State) (m : MethodId) (args : Array Value) (c : Code) (A : Nat → Prop) (D : va_G) (cy : Nat → ClassId) : Prop :=
  p.tables.exec = Jvm.exec ∧ c.code = cL_areAlike ∧ c.maxLocals = 4 ∧ s.vm.findClass RL = some m.cls ∧ (∀ w ∈ wsL_areAlike, w.before args s = true) ∧ va_K D vwCl (tysA cy) s ∧ TB s ∧ TC s ∧ SZ A s s.heap ∧ (∀ q : Nat, s.heap.size ≤ q → A q) ∧ l.stackTraces = false
def KEA (p : Program) (l : Launch) (e : Env) (s : State) (m : MethodId) (args : Array Value) (below : List Frame) (meth : Method) (c : Code) (A : Nat → Prop) (Q : State → Prop) (D : va_G) (cy : Nat → ClassId) (ad ae : Nat → Nat) (M : MS) (h : List MS) (sl : Nat → Option MS) (tx : List Int32) : Prop :=
  ∀ (pc : Nat) (ls : Array Slot) (H : Heap) (locs : List Loc) (c1 s1 : Nat), decode cL_areAlike pc = .ok (.ireturn, 1) → PR D cy A ad ae (M, h, sl, []) (mirM M, h.map mirM, mirS sl, []) H → va_S A s.heap H locs → c1 ≤ 600 → s1 ≤ 3600 → W p l e ({ frames := 10, cells := 600, slots := 6 * 600, locals := 300 } : Room) s m args below meth c H locs c1 s1 Q (F0 m pc ls [.int (iI 1)])
set_option maxHeartbeats 8000000 in
set_option maxRecDepth 100000 in
theorem al_308 {p : Program} {l : Launch} {e : Env} {s : State} {m : MethodId} {args : Array Value} {below : List Frame} {meth : Method} {c : Code} {A : Nat → Prop} {Q : State → Prop} {D : va_G} {cy : Nat → ClassId} {ad ae : Nat → Nat} (C : KCA p l s m args c A D cy) {M : MS} {h : List MS} {sl : Nat → Option MS} {tx : List Int32} (kend : KEA p l e s m args below meth c A Q D cy ad ae M h sl tx) (hMI : Inv M) {cl sl0 : Nat} (hcl : cl ≤ 570 ∧ sl0 ≤ 3420) {H : Heap} {locs : List Loc} {ls : Array Slot} (hI : PR D cy A ad ae (M, h, sl, ([] : List Int32)) (mirM M, h.map mirM, mirS sl, ([] : List Int32)) H) (hS : va_S A s.heap H locs) (hl : lv_has ls 4 [(0, .ref (ad 0)), (1, .ref (ae 0)), (2, .int (iI 1))]) : W p l e ({ frames := 10, cells := 600, slots := 6 * 600, locals := 300 } : Room) s m args below meth c H locs cl sl0 Q (F0 m 308 ls []) := by
  obtain ⟨hx, hb, hml, hown, hts, hK, hT, hC, hZ, hA, hfl⟩ := id C
  have hM := hMI.1
  have hn := hM.nums
  have hmL : (mirM M).1.length = M.1.length := mirL_len _
  have hmW : (mirM M).2.1.length = M.2.1.length := mirL_len _
  have hM2 := MOk_mir hM
  refine lv_iload_n hx hb dL_areAlike_308 rfl (lv_at hl 2 rfl) ?_
  refine z_if_eq (tgt := 361) hx hb (iI_t (by omega) (by omega)) dL_areAlike_309 (by decide) (fun c1 => absurd c1 (by omega)) (fun _ => ?_)
  refine lv_aload_n hx hb dL_areAlike_312 rfl (lv_at hl 0 rfl) ?_
  refine lv_iconst (v := iI 1) hx hb dL_areAlike_313 rfl ?_
  refine lv_iconst (v := iI 1) hx hb dL_areAlike_314 rfl ?_
  refine pV1 (n := 2) (As := [.int (iI 1), .int (iI 1)]) (rest := []) ⟨hx, hb, hml, hown, hts⟩ (x_comparedWith l D cy ad M h sl ([] : List Int32) (1 : Int) (1 : Int) (by omega)) gL_areAlike_X4_comparedWith rfl (by decide +kernel) ⟨Nat.le_of_ble_eq_true rfl, Nat.le_of_ble_eq_true rfl⟩ hK hT hA rfl hl.1 rfl (Nat.le_of_ble_eq_true rfl) dL_areAlike_315 ⟨show cl ≤ 600 by omega, show sl0 ≤ 3600 by omega⟩ hI hS (fun H locs hI hS => ?_)
  have hI : PR D cy A ad ae (M, h, sl, ([] : List Int32)) (mirM M, h.map mirM, mirS sl, ([] : List Int32)) H := hI
  refine lv_aload_n hx hb dL_areAlike_318 rfl (lv_at hl 1 rfl) ?_
  refine lv_iconst (v := iI 1) hx hb dL_areAlike_319 rfl ?_
  refine lv_iconst (v := iI 1) hx hb dL_areAlike_320 rfl ?_
  refine pV2 (n := 2) (As := [.int (iI 1), .int (iI 1)]) (rest := [.int (iI (mRun (mRules M (1 : Int) (1 : Int))).1.2.2.1)]) ⟨hx, hb, hml, hown, hts⟩ (x_comparedWith l D cy ae (mirM M) (h.map mirM) (mirS sl) ([] : List Int32) (1 : Int) (1 : Int) (by omega)) gL_areAlike_X4_comparedWith rfl (by decide +kernel) ⟨Nat.le_of_ble_eq_true rfl, Nat.le_of_ble_eq_true rfl⟩ hK hT hA rfl hl.1 rfl (Nat.le_of_ble_eq_true rfl) dL_areAlike_321 ⟨show cl ≤ 600 by omega, show sl0 ≤ 3600 by omega⟩ hI hS (fun H locs hI hS => ?_)
  have hI : PR D cy A ad ae (M, h, sl, ([] : List Int32)) (mirM M, h.map mirM, mirS sl, ([] : List Int32)) H := hI
  refine z_top (show (iI (mRun (mRules (mirM M) (1 : Int) (1 : Int))).1.2.2.1) = (iI (mRun (mRules M (1 : Int) (1 : Int))).1.2.2.1) from by rw [cw_mir hM (by omega)]) ?_
  refine lv_icmp_ne (tgt := 361) hx hb dL_areAlike_324 (by decide) (fun c4 => absurd c4 (fun h9 => h9 rfl)) (fun c4 => ?_)
  refine lv_aload_n hx hb dL_areAlike_327 rfl (lv_at hl 0 rfl) ?_
  refine lv_iconst (v := iI 0) hx hb dL_areAlike_328 rfl ?_
  refine lv_iconst (v := iI 1) hx hb dL_areAlike_329 rfl ?_
  refine pV1 (n := 2) (As := [.int (iI 0), .int (iI 1)]) (rest := []) ⟨hx, hb, hml, hown, hts⟩ (x_comparedWith l D cy ad M h sl ([] : List Int32) (0 : Int) (1 : Int) (by omega)) gL_areAlike_X4_comparedWith rfl (by decide +kernel) ⟨Nat.le_of_ble_eq_true rfl, Nat.le_of_ble_eq_true rfl⟩ hK hT hA rfl hl.1 rfl (Nat.le_of_ble_eq_true rfl) dL_areAlike_330 ⟨show cl ≤ 600 by omega, show sl0 ≤ 3600 by omega⟩ hI hS (fun H locs hI hS => ?_)
  have hI : PR D cy A ad ae (M, h, sl, ([] : List Int32)) (mirM M, h.map mirM, mirS sl, ([] : List Int32)) H := hI
  refine lv_aload_n hx hb dL_areAlike_333 rfl (lv_at hl 1 rfl) ?_
  refine lv_iconst (v := iI 0) hx hb dL_areAlike_334 rfl ?_
  refine lv_iconst (v := iI 1) hx hb dL_areAlike_335 rfl ?_
  refine pV2 (n := 2) (As := [.int (iI 0), .int (iI 1)]) (rest := [.int (iI (mRun (mRules M (0 : Int) (1 : Int))).1.2.2.1)]) ⟨hx, hb, hml, hown, hts⟩ (x_comparedWith l D cy ae (mirM M) (h.map mirM) (mirS sl) ([] : List Int32) (0 : Int) (1 : Int) (by omega)) gL_areAlike_X4_comparedWith rfl (by decide +kernel) ⟨Nat.le_of_ble_eq_true rfl, Nat.le_of_ble_eq_true rfl⟩ hK hT hA rfl hl.1 rfl (Nat.le_of_ble_eq_true rfl) dL_areAlike_336 ⟨show cl ≤ 600 by omega, show sl0 ≤ 3600 by omega⟩ hI hS (fun H locs hI hS => ?_)
  have hI : PR D cy A ad ae (M, h, sl, ([] : List Int32)) (mirM M, h.map mirM, mirS sl, ([] : List Int32)) H := hI
  refine z_top (show (iI (mRun (mRules (mirM M) (0 : Int) (1 : Int))).1.2.2.1) = (iI (mRun (mRules M (0 : Int) (1 : Int))).1.2.2.1) from by rw [cw_mir hM (by omega)]) ?_
  refine lv_icmp_ne (tgt := 361) hx hb dL_areAlike_339 (by decide) (fun c7 => absurd c7 (fun h9 => h9 rfl)) (fun c7 => ?_)
  refine lv_aload_n hx hb dL_areAlike_342 rfl (lv_at hl 0 rfl) ?_
  refine lv_iconst (v := iI 1) hx hb dL_areAlike_343 rfl ?_
  refine lv_iconst (v := iI 0) hx hb dL_areAlike_344 rfl ?_
  refine pV1 (n := 2) (As := [.int (iI 1), .int (iI 0)]) (rest := []) ⟨hx, hb, hml, hown, hts⟩ (x_comparedWith l D cy ad M h sl ([] : List Int32) (1 : Int) (0 : Int) (by omega)) gL_areAlike_X4_comparedWith rfl (by decide +kernel) ⟨Nat.le_of_ble_eq_true rfl, Nat.le_of_ble_eq_true rfl⟩ hK hT hA rfl hl.1 rfl (Nat.le_of_ble_eq_true rfl) dL_areAlike_345 ⟨show cl ≤ 600 by omega, show sl0 ≤ 3600 by omega⟩ hI hS (fun H locs hI hS => ?_)
  have hI : PR D cy A ad ae (M, h, sl, ([] : List Int32)) (mirM M, h.map mirM, mirS sl, ([] : List Int32)) H := hI
  refine lv_aload_n hx hb dL_areAlike_348 rfl (lv_at hl 1 rfl) ?_
  refine lv_iconst (v := iI 1) hx hb dL_areAlike_349 rfl ?_
  refine lv_iconst (v := iI 0) hx hb dL_areAlike_350 rfl ?_
  refine pV2 (n := 2) (As := [.int (iI 1), .int (iI 0)]) (rest := [.int (iI (mRun (mRules M (1 : Int) (0 : Int))).1.2.2.1)]) ⟨hx, hb, hml, hown, hts⟩ (x_comparedWith l D cy ae (mirM M) (h.map mirM) (mirS sl) ([] : List Int32) (1 : Int) (0 : Int) (by omega)) gL_areAlike_X4_comparedWith rfl (by decide +kernel) ⟨Nat.le_of_ble_eq_true rfl, Nat.le_of_ble_eq_true rfl⟩ hK hT hA rfl hl.1 rfl (Nat.le_of_ble_eq_true rfl) dL_areAlike_351 ⟨show cl ≤ 600 by omega, show sl0 ≤ 3600 by omega⟩ hI hS (fun H locs hI hS => ?_)
  have hI : PR D cy A ad ae (M, h, sl, ([] : List Int32)) (mirM M, h.map mirM, mirS sl, ([] : List Int32)) H := hI
  refine z_top (show (iI (mRun (mRules (mirM M) (1 : Int) (0 : Int))).1.2.2.1) = (iI (mRun (mRules M (1 : Int) (0 : Int))).1.2.2.1) from by rw [cw_mir hM (by omega)]) ?_
  refine lv_icmp_ne (tgt := 361) hx hb dL_areAlike_354 (by decide) (fun c10 => absurd c10 (fun h9 => h9 rfl)) (fun c10 => ?_)
  refine lv_iconst (v := iI 1) hx hb dL_areAlike_357 rfl ?_
  refine lv_goto (tgt := 362) hx hb dL_areAlike_358 (by decide) ?_
  exact kend 362 _ _ _ _ _ dL_areAlike_362 hI hS (by omega) (by omega)
set_option maxHeartbeats 8000000 in
set_option maxRecDepth 100000 in
theorem al_268 {p : Program} {l : Launch} {e : Env} {s : State} {m : MethodId} {args : Array Value} {below : List Frame} {meth : Method} {c : Code} {A : Nat → Prop} {Q : State → Prop} {D : va_G} {cy : Nat → ClassId} {ad ae : Nat → Nat} (C : KCA p l s m args c A D cy) {M : MS} {h : List MS} {sl : Nat → Option MS} {tx : List Int32} (kend : KEA p l e s m args below meth c A Q D cy ad ae M h sl tx) (hMI : Inv M) {cl sl0 : Nat} (hcl : cl ≤ 514 ∧ sl0 ≤ 3084) {H : Heap} {locs : List Loc} {ls : Array Slot} (hI : PR D cy A ad ae (M, h, sl, ([] : List Int32)) (mirM M, h.map mirM, mirS sl, ([] : List Int32)) H) (hS : va_S A s.heap H locs) (hl : lv_has ls 4 [(0, .ref (ad 0)), (1, .ref (ae 0)), (2, .int (iI 1))]) : W p l e ({ frames := 10, cells := 600, slots := 6 * 600, locals := 300 } : Room) s m args below meth c H locs cl sl0 Q (F0 m 268 ls []) := by
  obtain ⟨hx, hb, hml, hown, hts, hK, hT, hC, hZ, hA, hfl⟩ := id C
  have hM := hMI.1
  have hn := hM.nums
  have hmL : (mirM M).1.length = M.1.length := mirL_len _
  have hmW : (mirM M).2.1.length = M.2.1.length := mirL_len _
  have hM2 := MOk_mir hM
  refine lv_iconst (v := iI 0) hx hb dL_areAlike_268 rfl ?_
  refine lv_istore_n (lv' := [(3, .int (iI 0)), (0, .ref (ad 0)), (1, .ref (ae 0)), (2, .int (iI 1))]) hx hb dL_areAlike_269 rfl hl (by decide) rfl (fun ls hl => ?_)
  have hloop1 : ∀ (n1 cl1 sl1 : Nat) (k : Int) (hk : 0 ≤ k ∧ k ≤ 26) (hcl1 : cl1 + 2 * n1 ≤ 570 ∧ sl1 + 12 * n1 ≤ 3420) (hm1 : 26 - k < (n1 : Int)) (H : Heap) (locs : List Loc) (ls : Array Slot) (hI : PR D cy A ad ae (M, h, sl, ([] : List Int32)) (mirM M, h.map mirM, mirS sl, ([] : List Int32)) H) (hS : va_S A s.heap H locs) (hl : lv_has ls 4 [(3, .int (iI k)), (0, .ref (ad 0)), (1, .ref (ae 0)), (2, .int (iI 1))]), W p l e ({ frames := 10, cells := 600, slots := 6 * 600, locals := 300 } : Room) s m args below meth c H locs cl1 sl1 Q (F0 m 270 ls []) := by
    intro n1
    induction n1 with
    | zero =>
      intro cl1 sl1 k hk hcl1 hm1; exact absurd hm1 (by omega)
    | succ n1 ih1 =>
      intro cl1 sl1 k hk hcl1 hm1 H locs ls hI hS hl
      refine lv_iload_n hx hb dL_areAlike_270 rfl (lv_at hl 0 rfl) ?_
      refine lv_bipush (v := iI 26) hx hb dL_areAlike_271 (by decide +kernel) ?_
      refine z_icmp_ge (tgt := 308) hx hb (iI_t (by omega) (by omega)) (iI_t (by omega) (by omega)) dL_areAlike_273 (by decide) (fun c2 => ?_) (fun c2 => ?_)
      · --
        exact al_308 C kend hMI ⟨by omega, by omega⟩ hI hS (lv_sub hl [1, 2, 3] rfl)
      · --
        refine lv_iload_n hx hb dL_areAlike_276 rfl (lv_at hl 3 rfl) ?_
        refine z_if_eq (tgt := 300) hx hb (iI_t (by omega) (by omega)) dL_areAlike_277 (by decide) (fun c3 => absurd c3 (by omega)) (fun _ => ?_)
        refine lv_aload_n hx hb dL_areAlike_280 rfl (lv_at hl 1 rfl) ?_
        refine lv_iload_n hx hb dL_areAlike_281 rfl (lv_at hl 0 rfl) ?_
        refine pS1 (n := 2) (As := [.int (iI k)]) (rest := []) ⟨hx, hb, hml, hown, hts⟩ (x_last l hfl D cy ad M h sl ([] : List Int32) k (by omega)) gL_areAlike_L_last rfl (by decide +kernel) ⟨Nat.le_of_ble_eq_true rfl, Nat.le_of_ble_eq_true rfl⟩ hK hT hC hZ hA rfl hl.1 rfl (Nat.le_of_ble_eq_true rfl) dL_areAlike_282 ⟨show cl1 + 1 ≤ 600 by omega, show sl1 + 6 * 1 ≤ 3600 by omega⟩ hI hS (fun H locs hI hS => ?_)
        have hI : PR D cy A ad ae (M, h, sl, ([] : List Int32)) (mirM M, h.map mirM, mirS sl, ([] : List Int32)) H := hI
        refine lv_aload_n hx hb dL_areAlike_285 rfl (lv_at hl 2 rfl) ?_
        refine lv_bipush (v := iI 25) hx hb dL_areAlike_286 (by decide +kernel) ?_
        refine lv_iload_n hx hb dL_areAlike_288 rfl (lv_at hl 0 rfl) ?_
        refine z_sub hx hb dL_areAlike_289 ?_
        refine pS2 (n := 2) (As := [.int (iI (25 - k))]) (rest := [.int (iI (lastF M.2.1.length (gl M.2.1) (iI k)))]) ⟨hx, hb, hml, hown, hts⟩ (x_last l hfl D cy ae (mirM M) (h.map mirM) (mirS sl) ([] : List Int32) (25 - k) (by omega)) gL_areAlike_L_last rfl (by decide +kernel) ⟨Nat.le_of_ble_eq_true rfl, Nat.le_of_ble_eq_true rfl⟩ hK hT hC hZ hA rfl hl.1 rfl (Nat.le_of_ble_eq_true rfl) dL_areAlike_290 ⟨show (cl1 + 1) + 1 ≤ 600 by omega, show (sl1 + 6 * 1) + 6 * 1 ≤ 3600 by omega⟩ hI hS (fun H locs hI hS => ?_)
        have hI : PR D cy A ad ae (M, h, sl, ([] : List Int32)) (mirM M, h.map mirM, mirS sl, ([] : List Int32)) H := hI
        refine z_top (show (iI (lastF (mirM M).2.1.length (gl (mirM M).2.1) (iI (25 - k)))) = (iI (lastF M.2.1.length (gl M.2.1) (iI k))) from by rw [last_mir]) ?_
        refine lv_icmp_ne (tgt := 300) hx hb dL_areAlike_293 (by decide) (fun c6 => absurd c6 (fun h9 => h9 rfl)) (fun c6 => ?_)
        refine lv_iconst (v := iI 1) hx hb dL_areAlike_296 rfl ?_
        refine lv_goto (tgt := 301) hx hb dL_areAlike_297 (by decide) ?_
        refine lv_istore_n (lv' := [(2, .int (iI 1)), (3, .int (iI k)), (0, .ref (ad 0)), (1, .ref (ae 0))]) hx hb dL_areAlike_301 rfl hl (by decide) rfl (fun ls hl => ?_)
        refine z_iinc (lv' := [(3, .int (iI (k + 1))), (2, .int (iI 1)), (0, .ref (ad 0)), (1, .ref (ae 0))]) hx hb dL_areAlike_302 hl (k := 1) rfl (by decide) rfl (fun ls hl => ?_)
        refine lv_goto (tgt := 270) hx hb dL_areAlike_305 (by decide) ?_
        exact ih1 ((cl1 + 1) + 1) ((sl1 + 6 * 1) + 6 * 1) (k + 1) (by omega) (by omega) (by omega) _ _ _ hI hS (lv_sub hl [0, 2, 3, 1] rfl)
  exact hloop1 (Int.toNat (26 - 0) + 1) cl sl0 0 (by omega) (by omega) (by omega) _ _ _ hI hS (lv_sub hl [0, 1, 2, 3] rfl)
set_option maxHeartbeats 8000000 in
set_option maxRecDepth 100000 in
theorem al_195 {p : Program} {l : Launch} {e : Env} {s : State} {m : MethodId} {args : Array Value} {below : List Frame} {meth : Method} {c : Code} {A : Nat → Prop} {Q : State → Prop} {D : va_G} {cy : Nat → ClassId} {ad ae : Nat → Nat} (C : KCA p l s m args c A D cy) {M : MS} {h : List MS} {sl : Nat → Option MS} {tx : List Int32} (kend : KEA p l e s m args below meth c A Q D cy ad ae M h sl tx) (hMI : Inv M) {cl sl0 : Nat} (hcl : cl ≤ 370 ∧ sl0 ≤ 2220) {H : Heap} {locs : List Loc} {ls : Array Slot} (hI : PR D cy A ad ae (M, h, sl, ([] : List Int32)) (mirM M, h.map mirM, mirS sl, ([] : List Int32)) H) (hS : va_S A s.heap H locs) (hl : lv_has ls 4 [(0, .ref (ad 0)), (1, .ref (ae 0)), (2, .int (iI 1))]) : W p l e ({ frames := 10, cells := 600, slots := 6 * 600, locals := 300 } : Room) s m args below meth c H locs cl sl0 Q (F0 m 195 ls []) := by
  obtain ⟨hx, hb, hml, hown, hts, hK, hT, hC, hZ, hA, hfl⟩ := id C
  have hM := hMI.1
  have hn := hM.nums
  have hmL : (mirM M).1.length = M.1.length := mirL_len _
  have hmW : (mirM M).2.1.length = M.2.1.length := mirL_len _
  have hM2 := MOk_mir hM
  refine lv_iconst (v := iI 0) hx hb dL_areAlike_195 rfl ?_
  refine lv_istore_n (lv' := [(3, .int (iI 0)), (0, .ref (ad 0)), (1, .ref (ae 0)), (2, .int (iI 1))]) hx hb dL_areAlike_196 rfl hl (by decide) rfl (fun ls hl => ?_)
  have hloop1 : ∀ (n1 cl1 sl1 : Nat) (j : Int) (hj : 0 ≤ j ∧ j ≤ (M.2.1.length : Int)) (hcl1 : cl1 + 8 * n1 ≤ 514 ∧ sl1 + 48 * n1 ≤ 3084) (hm1 : (M.2.1.length : Int) - j < (n1 : Int)) (H : Heap) (locs : List Loc) (ls : Array Slot) (hI : PR D cy A ad ae (M, h, sl, ([] : List Int32)) (mirM M, h.map mirM, mirS sl, ([] : List Int32)) H) (hS : va_S A s.heap H locs) (hl : lv_has ls 4 [(3, .int (iI j)), (0, .ref (ad 0)), (1, .ref (ae 0)), (2, .int (iI 1))]), W p l e ({ frames := 10, cells := 600, slots := 6 * 600, locals := 300 } : Room) s m args below meth c H locs cl1 sl1 Q (F0 m 197 ls []) := by
    intro n1
    induction n1 with
    | zero =>
      intro cl1 sl1 j hj hcl1 hm1; exact absurd hm1 (by omega)
    | succ n1 ih1 =>
      intro cl1 sl1 j hj hcl1 hm1 H locs ls hI hS hl
      refine lv_iload_n hx hb dL_areAlike_197 rfl (lv_at hl 0 rfl) ?_
      refine lv_aload_n hx hb dL_areAlike_198 rfl (lv_at hl 1 rfl) ?_
      refine pV1 (n := 0) (As := []) (rest := [.int (iI j)]) ⟨hx, hb, hml, hown, hts⟩ (x_wordLength l D cy ad M h sl ([] : List Int32)  ) gL_areAlike_X4_wordLength rfl (by decide +kernel) ⟨Nat.le_of_ble_eq_true rfl, Nat.le_of_ble_eq_true rfl⟩ hK hT hA rfl hl.1 rfl (Nat.le_of_ble_eq_true rfl) dL_areAlike_199 ⟨show cl1 ≤ 600 by omega, show sl1 ≤ 3600 by omega⟩ hI hS (fun H locs hI hS => ?_)
      have hI : PR D cy A ad ae (M, h, sl, ([] : List Int32)) (mirM M, h.map mirM, mirS sl, ([] : List Int32)) H := hI
      refine z_icmp_ge (tgt := 268) hx hb (iI_t (by omega) (by omega)) (iI_t (by omega) (by omega)) dL_areAlike_202 (by decide) (fun c3 => ?_) (fun c3 => ?_)
      · --
        exact al_268 C kend hMI ⟨by omega, by omega⟩ hI hS (lv_sub hl [1, 2, 3] rfl)
      · --
        refine lv_iload_n hx hb dL_areAlike_205 rfl (lv_at hl 3 rfl) ?_
        refine z_if_eq (tgt := 260) hx hb (iI_t (by omega) (by omega)) dL_areAlike_206 (by decide) (fun c4 => absurd c4 (by omega)) (fun _ => ?_)
        refine lv_aload_n hx hb dL_areAlike_209 rfl (lv_at hl 1 rfl) ?_
        refine lv_iload_n hx hb dL_areAlike_210 rfl (lv_at hl 0 rfl) ?_
        have hlr := hMI.2.2.1 j.toNat (by omega)
        refine pS1 (n := 2) (As := [.int (iI j)]) (rest := []) ⟨hx, hb, hml, hown, hts⟩ (x_wordLetter l hfl D cy ad M h sl ([] : List Int32) j (by omega) (by omega)) gL_areAlike_L_wordLetter rfl (by decide +kernel) ⟨Nat.le_of_ble_eq_true rfl, Nat.le_of_ble_eq_true rfl⟩ hK hT hC hZ hA rfl hl.1 rfl (Nat.le_of_ble_eq_true rfl) dL_areAlike_211 ⟨show cl1 + 1 ≤ 600 by omega, show sl1 + 6 * 1 ≤ 3600 by omega⟩ hI hS (fun H locs hI hS => ?_)
        have hI : PR D cy A ad ae (M, h, sl, ([] : List Int32)) (mirM M, h.map mirM, mirS sl, ([] : List Int32)) H := hI
        refine z_top (show (gl M.2.1 j.toNat) = iI ((gl M.2.1 j.toNat).toInt) from (iI_of _).symm) ?_
        refine lv_bipush (v := iI 25) hx hb dL_areAlike_214 (by decide +kernel) ?_
        refine lv_aload_n hx hb dL_areAlike_216 rfl (lv_at hl 2 rfl) ?_
        refine lv_iload_n hx hb dL_areAlike_217 rfl (lv_at hl 0 rfl) ?_
        refine pS2 (n := 2) (As := [.int (iI j)]) (rest := [.int (iI 25), .int (iI ((gl M.2.1 j.toNat).toInt))]) ⟨hx, hb, hml, hown, hts⟩ (x_wordLetter l hfl D cy ae (mirM M) (h.map mirM) (mirS sl) ([] : List Int32) j (by omega) (by omega)) gL_areAlike_L_wordLetter rfl (by decide +kernel) ⟨Nat.le_of_ble_eq_true rfl, Nat.le_of_ble_eq_true rfl⟩ hK hT hC hZ hA rfl hl.1 rfl (Nat.le_of_ble_eq_true rfl) dL_areAlike_218 ⟨show (cl1 + 1) + 1 ≤ 600 by omega, show (sl1 + 6 * 1) + 6 * 1 ≤ 3600 by omega⟩ hI hS (fun H locs hI hS => ?_)
        have hI : PR D cy A ad ae (M, h, sl, ([] : List Int32)) (mirM M, h.map mirM, mirS sl, ([] : List Int32)) H := hI
        refine z_top (show (gl (mirM M).2.1 j.toNat) = iI (25 - (gl M.2.1 j.toNat).toInt) from by rw [show gl (mirM M).2.1 j.toNat = mirX (gl M.2.1 j.toNat) from gl_mir (by omega), mirX_z]) ?_
        refine z_sub hx hb dL_areAlike_221 ?_
        refine z_icmp_ne (tgt := 260) hx hb (iI_t (by omega) (by omega)) (iI_t (by omega) (by omega)) dL_areAlike_222 (by decide) (fun c7 => absurd c7 (by omega)) (fun c7 => ?_)
        refine lv_aload_n hx hb dL_areAlike_225 rfl (lv_at hl 1 rfl) ?_
        refine lv_iload_n hx hb dL_areAlike_226 rfl (lv_at hl 0 rfl) ?_
        refine pS1 (n := 2) (As := [.int (iI j)]) (rest := []) ⟨hx, hb, hml, hown, hts⟩ (x_endSkip l hfl D cy ad M h sl ([] : List Int32) j (by omega) (by omega)) gL_areAlike_L_endSkip rfl (by decide +kernel) ⟨Nat.le_of_ble_eq_true rfl, Nat.le_of_ble_eq_true rfl⟩ hK hT hC hZ hA rfl hl.1 rfl (Nat.le_of_ble_eq_true rfl) dL_areAlike_227 ⟨show ((cl1 + 1) + 1) + 1 ≤ 600 by omega, show ((sl1 + 6 * 1) + 6 * 1) + 6 * 1 ≤ 3600 by omega⟩ hI hS (fun H locs hI hS => ?_)
        have hI : PR D cy A ad ae (M, h, sl, ([] : List Int32)) (mirM M, h.map mirM, mirS sl, ([] : List Int32)) H := hI
        refine lv_aload_n hx hb dL_areAlike_230 rfl (lv_at hl 2 rfl) ?_
        refine lv_iload_n hx hb dL_areAlike_231 rfl (lv_at hl 0 rfl) ?_
        refine pS2 (n := 2) (As := [.int (iI j)]) (rest := [.int (iI (endF M.2.1.length (gl M.2.1) j.toNat : Int))]) ⟨hx, hb, hml, hown, hts⟩ (x_endTried l hfl D cy ae (mirM M) (h.map mirM) (mirS sl) ([] : List Int32) j (by omega) (by omega)) gL_areAlike_L_endTried rfl (by decide +kernel) ⟨Nat.le_of_ble_eq_true rfl, Nat.le_of_ble_eq_true rfl⟩ hK hT hC hZ hA rfl hl.1 rfl (Nat.le_of_ble_eq_true rfl) dL_areAlike_232 ⟨show (((cl1 + 1) + 1) + 1) + 1 ≤ 600 by omega, show (((sl1 + 6 * 1) + 6 * 1) + 6 * 1) + 6 * 1 ≤ 3600 by omega⟩ hI hS (fun H locs hI hS => ?_)
        have hI : PR D cy A ad ae (M, h, sl, ([] : List Int32)) (mirM M, h.map mirM, mirS sl, ([] : List Int32)) H := hI
        refine z_top (show (iI (endF (mirM M).2.1.length (gl (mirM M).2.1) j.toNat : Int)) = (iI (endF M.2.1.length (gl M.2.1) j.toNat : Int)) from by rw [show endF (mirM M).2.1.length (gl (mirM M).2.1) j.toNat = endF M.2.1.length (gl M.2.1) j.toNat from endW_mir M.2.1 (by omega)]) ?_
        refine lv_icmp_ne (tgt := 260) hx hb dL_areAlike_235 (by decide) (fun c10 => absurd c10 (fun h9 => h9 rfl)) (fun c10 => ?_)
        refine lv_aload_n hx hb dL_areAlike_238 rfl (lv_at hl 1 rfl) ?_
        refine lv_iload_n hx hb dL_areAlike_239 rfl (lv_at hl 0 rfl) ?_
        refine lv_iload_n hx hb dL_areAlike_240 rfl (lv_at hl 0 rfl) ?_
        refine pS1 (n := 3) (As := [.int (iI j), .int (iI j)]) (rest := []) ⟨hx, hb, hml, hown, hts⟩ (x_letterSkip l hfl D cy ad M h sl ([] : List Int32) j j (by omega) (by omega) (by omega)) gL_areAlike_L_letterSkip rfl (by decide +kernel) ⟨Nat.le_of_ble_eq_true rfl, Nat.le_of_ble_eq_true rfl⟩ hK hT hC hZ hA rfl hl.1 rfl (Nat.le_of_ble_eq_true rfl) dL_areAlike_241 ⟨show ((((cl1 + 1) + 1) + 1) + 1) + 2 ≤ 600 by omega, show ((((sl1 + 6 * 1) + 6 * 1) + 6 * 1) + 6 * 1) + 6 * 2 ≤ 3600 by omega⟩ hI hS (fun H locs hI hS => ?_)
        have hI : PR D cy A ad ae (M, h, sl, ([] : List Int32)) (mirM M, h.map mirM, mirS sl, ([] : List Int32)) H := hI
        refine lv_aload_n hx hb dL_areAlike_244 rfl (lv_at hl 2 rfl) ?_
        refine lv_iload_n hx hb dL_areAlike_245 rfl (lv_at hl 0 rfl) ?_
        refine lv_bipush (v := iI 25) hx hb dL_areAlike_246 (by decide +kernel) ?_
        refine lv_iload_n hx hb dL_areAlike_248 rfl (lv_at hl 0 rfl) ?_
        refine z_sub hx hb dL_areAlike_249 ?_
        refine pS2 (n := 3) (As := [.int (iI j), .int (iI (25 - j))]) (rest := [.int (iI (j - lastF M.2.1.length (gl M.2.1) (iI j)))]) ⟨hx, hb, hml, hown, hts⟩ (x_letterSkip l hfl D cy ae (mirM M) (h.map mirM) (mirS sl) ([] : List Int32) j (25 - j) (by omega) (by omega) (by omega)) gL_areAlike_L_letterSkip rfl (by decide +kernel) ⟨Nat.le_of_ble_eq_true rfl, Nat.le_of_ble_eq_true rfl⟩ hK hT hC hZ hA rfl hl.1 rfl (Nat.le_of_ble_eq_true rfl) dL_areAlike_250 ⟨show (((((cl1 + 1) + 1) + 1) + 1) + 2) + 2 ≤ 600 by omega, show (((((sl1 + 6 * 1) + 6 * 1) + 6 * 1) + 6 * 1) + 6 * 2) + 6 * 2 ≤ 3600 by omega⟩ hI hS (fun H locs hI hS => ?_)
        have hI : PR D cy A ad ae (M, h, sl, ([] : List Int32)) (mirM M, h.map mirM, mirS sl, ([] : List Int32)) H := hI
        refine z_top (show (iI (j - lastF (mirM M).2.1.length (gl (mirM M).2.1) (iI (25 - j)))) = (iI (j - lastF M.2.1.length (gl M.2.1) (iI j))) from by rw [last_mir]) ?_
        refine lv_icmp_ne (tgt := 260) hx hb dL_areAlike_253 (by decide) (fun c13 => absurd c13 (fun h9 => h9 rfl)) (fun c13 => ?_)
        refine lv_iconst (v := iI 1) hx hb dL_areAlike_256 rfl ?_
        refine lv_goto (tgt := 261) hx hb dL_areAlike_257 (by decide) ?_
        refine lv_istore_n (lv' := [(2, .int (iI 1)), (3, .int (iI j)), (0, .ref (ad 0)), (1, .ref (ae 0))]) hx hb dL_areAlike_261 rfl hl (by decide) rfl (fun ls hl => ?_)
        refine z_iinc (lv' := [(3, .int (iI (j + 1))), (2, .int (iI 1)), (0, .ref (ad 0)), (1, .ref (ae 0))]) hx hb dL_areAlike_262 hl (k := 1) rfl (by decide) rfl (fun ls hl => ?_)
        refine lv_goto (tgt := 197) hx hb dL_areAlike_265 (by decide) ?_
        exact ih1 ((((((cl1 + 1) + 1) + 1) + 1) + 2) + 2) ((((((sl1 + 6 * 1) + 6 * 1) + 6 * 1) + 6 * 1) + 6 * 2) + 6 * 2) (j + 1) (by omega) (by omega) (by omega) _ _ _ hI hS (lv_sub hl [0, 2, 3, 1] rfl)
  exact hloop1 (Int.toNat ((M.2.1.length : Int) - 0) + 1) cl sl0 0 (by omega) (by omega) (by omega) _ _ _ hI hS (lv_sub hl [0, 1, 2, 3] rfl)
set_option maxHeartbeats 8000000 in
set_option maxRecDepth 100000 in
theorem al_127 {p : Program} {l : Launch} {e : Env} {s : State} {m : MethodId} {args : Array Value} {below : List Frame} {meth : Method} {c : Code} {A : Nat → Prop} {Q : State → Prop} {D : va_G} {cy : Nat → ClassId} {ad ae : Nat → Nat} (C : KCA p l s m args c A D cy) {M : MS} {h : List MS} {sl : Nat → Option MS} {tx : List Int32} (kend : KEA p l e s m args below meth c A Q D cy ad ae M h sl tx) (hMI : Inv M) {H : Heap} {locs : List Loc} {ls : Array Slot} (hI : PR D cy A ad ae (M, h, sl, ([] : List Int32)) (mirM M, h.map mirM, mirS sl, ([] : List Int32)) H) (hS : va_S A s.heap H locs) (hl : lv_has ls 4 [(0, .ref (ad 0)), (1, .ref (ae 0)), (2, .int (iI 1))]) : W p l e ({ frames := 10, cells := 600, slots := 6 * 600, locals := 300 } : Room) s m args below meth c H locs 0 0 Q (F0 m 127 ls []) := by
  obtain ⟨hx, hb, hml, hown, hts, hK, hT, hC, hZ, hA, hfl⟩ := id C
  have hM := hMI.1
  have hn := hM.nums
  have hmL : (mirM M).1.length = M.1.length := mirL_len _
  have hmW : (mirM M).2.1.length = M.2.1.length := mirL_len _
  have hM2 := MOk_mir hM
  refine lv_iconst (v := iI 0) hx hb dL_areAlike_127 rfl ?_
  refine lv_istore_n (lv' := [(3, .int (iI 0)), (0, .ref (ad 0)), (1, .ref (ae 0)), (2, .int (iI 1))]) hx hb dL_areAlike_128 rfl hl (by decide) rfl (fun ls hl => ?_)
  have hloop1 : ∀ (n1 cl1 sl1 : Nat) (k : Int) (hk : 0 ≤ k ∧ k ≤ (M.1.length : Int)) (hcl1 : cl1 + 6 * n1 ≤ 370 ∧ sl1 + 36 * n1 ≤ 2220) (hm1 : (M.1.length : Int) - k < (n1 : Int)) (H : Heap) (locs : List Loc) (ls : Array Slot) (hI : PR D cy A ad ae (M, h, sl, ([] : List Int32)) (mirM M, h.map mirM, mirS sl, ([] : List Int32)) H) (hS : va_S A s.heap H locs) (hl : lv_has ls 4 [(3, .int (iI k)), (0, .ref (ad 0)), (1, .ref (ae 0)), (2, .int (iI 1))]), W p l e ({ frames := 10, cells := 600, slots := 6 * 600, locals := 300 } : Room) s m args below meth c H locs cl1 sl1 Q (F0 m 129 ls []) := by
    intro n1
    induction n1 with
    | zero =>
      intro cl1 sl1 k hk hcl1 hm1; exact absurd hm1 (by omega)
    | succ n1 ih1 =>
      intro cl1 sl1 k hk hcl1 hm1 H locs ls hI hS hl
      refine lv_iload_n hx hb dL_areAlike_129 rfl (lv_at hl 0 rfl) ?_
      refine lv_aload_n hx hb dL_areAlike_130 rfl (lv_at hl 1 rfl) ?_
      refine pV1 (n := 0) (As := []) (rest := [.int (iI k)]) ⟨hx, hb, hml, hown, hts⟩ (x_lineLength l D cy ad M h sl ([] : List Int32)  ) gL_areAlike_X4_lineLength rfl (by decide +kernel) ⟨Nat.le_of_ble_eq_true rfl, Nat.le_of_ble_eq_true rfl⟩ hK hT hA rfl hl.1 rfl (Nat.le_of_ble_eq_true rfl) dL_areAlike_131 ⟨show cl1 ≤ 600 by omega, show sl1 ≤ 3600 by omega⟩ hI hS (fun H locs hI hS => ?_)
      have hI : PR D cy A ad ae (M, h, sl, ([] : List Int32)) (mirM M, h.map mirM, mirS sl, ([] : List Int32)) H := hI
      refine z_icmp_ge (tgt := 195) hx hb (iI_t (by omega) (by omega)) (iI_t (by omega) (by omega)) dL_areAlike_134 (by decide) (fun c3 => ?_) (fun c3 => ?_)
      · --
        exact al_195 C kend hMI ⟨by omega, by omega⟩ hI hS (lv_sub hl [1, 2, 3] rfl)
      · --
        refine lv_iload_n hx hb dL_areAlike_137 rfl (lv_at hl 3 rfl) ?_
        refine z_if_eq (tgt := 187) hx hb (iI_t (by omega) (by omega)) dL_areAlike_138 (by decide) (fun c4 => absurd c4 (by omega)) (fun _ => ?_)
        refine lv_aload_n hx hb dL_areAlike_141 rfl (lv_at hl 1 rfl) ?_
        refine lv_iload_n hx hb dL_areAlike_142 rfl (lv_at hl 0 rfl) ?_
        have hlr := hMI.2.1 k.toNat (by omega)
        refine pS1 (n := 2) (As := [.int (iI k)]) (rest := []) ⟨hx, hb, hml, hown, hts⟩ (x_lineLetter l hfl D cy ad M h sl ([] : List Int32) k (by omega) (by omega)) gL_areAlike_L_lineLetter rfl (by decide +kernel) ⟨Nat.le_of_ble_eq_true rfl, Nat.le_of_ble_eq_true rfl⟩ hK hT hC hZ hA rfl hl.1 rfl (Nat.le_of_ble_eq_true rfl) dL_areAlike_143 ⟨show cl1 + 1 ≤ 600 by omega, show sl1 + 6 * 1 ≤ 3600 by omega⟩ hI hS (fun H locs hI hS => ?_)
        have hI : PR D cy A ad ae (M, h, sl, ([] : List Int32)) (mirM M, h.map mirM, mirS sl, ([] : List Int32)) H := hI
        refine z_top (show (gl M.1 k.toNat) = iI ((gl M.1 k.toNat).toInt) from (iI_of _).symm) ?_
        refine lv_bipush (v := iI 25) hx hb dL_areAlike_146 (by decide +kernel) ?_
        refine lv_aload_n hx hb dL_areAlike_148 rfl (lv_at hl 2 rfl) ?_
        refine lv_iload_n hx hb dL_areAlike_149 rfl (lv_at hl 0 rfl) ?_
        refine pS2 (n := 2) (As := [.int (iI k)]) (rest := [.int (iI 25), .int (iI ((gl M.1 k.toNat).toInt))]) ⟨hx, hb, hml, hown, hts⟩ (x_lineLetter l hfl D cy ae (mirM M) (h.map mirM) (mirS sl) ([] : List Int32) k (by omega) (by omega)) gL_areAlike_L_lineLetter rfl (by decide +kernel) ⟨Nat.le_of_ble_eq_true rfl, Nat.le_of_ble_eq_true rfl⟩ hK hT hC hZ hA rfl hl.1 rfl (Nat.le_of_ble_eq_true rfl) dL_areAlike_150 ⟨show (cl1 + 1) + 1 ≤ 600 by omega, show (sl1 + 6 * 1) + 6 * 1 ≤ 3600 by omega⟩ hI hS (fun H locs hI hS => ?_)
        have hI : PR D cy A ad ae (M, h, sl, ([] : List Int32)) (mirM M, h.map mirM, mirS sl, ([] : List Int32)) H := hI
        refine z_top (show (gl (mirM M).1 k.toNat) = iI (25 - (gl M.1 k.toNat).toInt) from by rw [show gl (mirM M).1 k.toNat = mirX (gl M.1 k.toNat) from gl_mir (by omega), mirX_z]) ?_
        refine z_sub hx hb dL_areAlike_153 ?_
        refine z_icmp_ne (tgt := 187) hx hb (iI_t (by omega) (by omega)) (iI_t (by omega) (by omega)) dL_areAlike_154 (by decide) (fun c7 => absurd c7 (by omega)) (fun c7 => ?_)
        by_cases hd1 : k + (M.2.1.length : Int) ≤ (M.1.length : Int)
        · --
          by_cases hd2 : (M.2.1.length : Int) = 0
          · --
            refine lv_aload_n hx hb dL_areAlike_157 rfl (lv_at hl 1 rfl) ?_
            refine lv_iload_n hx hb dL_areAlike_158 rfl (lv_at hl 0 rfl) ?_
            refine pS1 (n := 2) (As := [.int (iI k)]) (rest := []) ⟨hx, hb, hml, hown, hts⟩ (x_diff2 l hfl D cy ad M h sl ([] : List Int32) k (by omega) (by omega) (by omega)) gL_areAlike_L_difference rfl (by decide +kernel) ⟨Nat.le_of_ble_eq_true rfl, Nat.le_of_ble_eq_true rfl⟩ hK hT hC hZ hA rfl hl.1 rfl (Nat.le_of_ble_eq_true rfl) dL_areAlike_159 ⟨show ((cl1 + 1) + 1) + 1 ≤ 600 by omega, show ((sl1 + 6 * 1) + 6 * 1) + 6 * 1 ≤ 3600 by omega⟩ hI hS (fun H locs hI hS => ?_)
            have hI : PR D cy A ad ae (M, h, sl, ([] : List Int32)) (mirM M, h.map mirM, mirS sl, ([] : List Int32)) H := hI
            refine lv_aload_n hx hb dL_areAlike_162 rfl (lv_at hl 2 rfl) ?_
            refine lv_iload_n hx hb dL_areAlike_163 rfl (lv_at hl 0 rfl) ?_
            refine pS2 (n := 2) (As := [.int (iI k)]) (rest := [.int (iI 90002)]) ⟨hx, hb, hml, hown, hts⟩ (x_diff2 l hfl D cy ae (mirM M) (h.map mirM) (mirS sl) ([] : List Int32) k (by omega) (by omega) (by omega)) gL_areAlike_L_difference rfl (by decide +kernel) ⟨Nat.le_of_ble_eq_true rfl, Nat.le_of_ble_eq_true rfl⟩ hK hT hC hZ hA rfl hl.1 rfl (Nat.le_of_ble_eq_true rfl) dL_areAlike_164 ⟨show (((cl1 + 1) + 1) + 1) + 1 ≤ 600 by omega, show (((sl1 + 6 * 1) + 6 * 1) + 6 * 1) + 6 * 1 ≤ 3600 by omega⟩ hI hS (fun H locs hI hS => ?_)
            have hI : PR D cy A ad ae (M, h, sl, ([] : List Int32)) (mirM M, h.map mirM, mirS sl, ([] : List Int32)) H := hI
            refine z_top (show iI 90002 = iI 90002 from rfl) ?_
            refine z_icmp_ne (tgt := 187) hx hb (iI_t (by omega) (by omega)) (iI_t (by omega) (by omega)) dL_areAlike_167 (by decide) (fun c10 => absurd c10 (by omega)) (fun _ => ?_)
            by_cases hf1 : k < (M.2.2.1.length : Int)
            · --
              refine lv_aload_n hx hb dL_areAlike_170 rfl (lv_at hl 1 rfl) ?_
              refine lv_iload_n hx hb dL_areAlike_171 rfl (lv_at hl 0 rfl) ?_
              refine pS1 (n := 2) (As := [.int (iI k)]) (rest := []) ⟨hx, hb, hml, hown, hts⟩ (x_found0 l hfl D cy ad M h sl ([] : List Int32) k (by omega) (by omega)) gL_areAlike_L_found rfl (by decide +kernel) ⟨Nat.le_of_ble_eq_true rfl, Nat.le_of_ble_eq_true rfl⟩ hK hT hC hZ hA rfl hl.1 rfl (Nat.le_of_ble_eq_true rfl) dL_areAlike_172 ⟨show ((((cl1 + 1) + 1) + 1) + 1) + 1 ≤ 600 by omega, show ((((sl1 + 6 * 1) + 6 * 1) + 6 * 1) + 6 * 1) + 6 * 1 ≤ 3600 by omega⟩ hI hS (fun H locs hI hS => ?_)
              have hI : PR D cy A ad ae (M, h, sl, ([] : List Int32)) (mirM M, h.map mirM, mirS sl, ([] : List Int32)) H := hI
              refine lv_aload_n hx hb dL_areAlike_175 rfl (lv_at hl 2 rfl) ?_
              refine lv_iload_n hx hb dL_areAlike_176 rfl (lv_at hl 0 rfl) ?_
              refine pS2 (n := 2) (As := [.int (iI k)]) (rest := [.int (gl M.2.2.1 k.toNat)]) ⟨hx, hb, hml, hown, hts⟩ (x_found0 l hfl D cy ae (mirM M) (h.map mirM) (mirS sl) ([] : List Int32) k (by omega) (by rw [found_mir]; omega)) gL_areAlike_L_found rfl (by decide +kernel) ⟨Nat.le_of_ble_eq_true rfl, Nat.le_of_ble_eq_true rfl⟩ hK hT hC hZ hA rfl hl.1 rfl (Nat.le_of_ble_eq_true rfl) dL_areAlike_177 ⟨show (((((cl1 + 1) + 1) + 1) + 1) + 1) + 1 ≤ 600 by omega, show (((((sl1 + 6 * 1) + 6 * 1) + 6 * 1) + 6 * 1) + 6 * 1) + 6 * 1 ≤ 3600 by omega⟩ hI hS (fun H locs hI hS => ?_)
              have hI : PR D cy A ad ae (M, h, sl, ([] : List Int32)) (mirM M, h.map mirM, mirS sl, ([] : List Int32)) H := hI
              refine z_top (show (gl (mirM M).2.2.1 k.toNat) = gl M.2.2.1 k.toNat from rfl) ?_
              refine lv_icmp_ne (tgt := 187) hx hb dL_areAlike_180 (by decide) (fun c13 => absurd c13 (fun h9 => h9 rfl)) (fun c13 => ?_)
              refine lv_iconst (v := iI 1) hx hb dL_areAlike_183 rfl ?_
              refine lv_goto (tgt := 188) hx hb dL_areAlike_184 (by decide) ?_
              refine lv_istore_n (lv' := [(2, .int (iI 1)), (3, .int (iI k)), (0, .ref (ad 0)), (1, .ref (ae 0))]) hx hb dL_areAlike_188 rfl hl (by decide) rfl (fun ls hl => ?_)
              refine z_iinc (lv' := [(3, .int (iI (k + 1))), (2, .int (iI 1)), (0, .ref (ad 0)), (1, .ref (ae 0))]) hx hb dL_areAlike_189 hl (k := 1) rfl (by decide) rfl (fun ls hl => ?_)
              refine lv_goto (tgt := 129) hx hb dL_areAlike_192 (by decide) ?_
              exact ih1 ((((((cl1 + 1) + 1) + 1) + 1) + 1) + 1) ((((((sl1 + 6 * 1) + 6 * 1) + 6 * 1) + 6 * 1) + 6 * 1) + 6 * 1) (k + 1) (by omega) (by omega) (by omega) _ _ _ hI hS (lv_sub hl [0, 2, 3, 1] rfl)
            · --
              refine lv_aload_n hx hb dL_areAlike_170 rfl (lv_at hl 1 rfl) ?_
              refine lv_iload_n hx hb dL_areAlike_171 rfl (lv_at hl 0 rfl) ?_
              refine pS1 (n := 2) (As := [.int (iI k)]) (rest := []) ⟨hx, hb, hml, hown, hts⟩ (x_found1 l hfl D cy ad M h sl ([] : List Int32) k (by omega) (by omega)) gL_areAlike_L_found rfl (by decide +kernel) ⟨Nat.le_of_ble_eq_true rfl, Nat.le_of_ble_eq_true rfl⟩ hK hT hC hZ hA rfl hl.1 rfl (Nat.le_of_ble_eq_true rfl) dL_areAlike_172 ⟨show ((((cl1 + 1) + 1) + 1) + 1) + 1 ≤ 600 by omega, show ((((sl1 + 6 * 1) + 6 * 1) + 6 * 1) + 6 * 1) + 6 * 1 ≤ 3600 by omega⟩ hI hS (fun H locs hI hS => ?_)
              have hI : PR D cy A ad ae (M, h, sl, ([] : List Int32)) (mirM M, h.map mirM, mirS sl, ([] : List Int32)) H := hI
              refine lv_aload_n hx hb dL_areAlike_175 rfl (lv_at hl 2 rfl) ?_
              refine lv_iload_n hx hb dL_areAlike_176 rfl (lv_at hl 0 rfl) ?_
              refine pS2 (n := 2) (As := [.int (iI k)]) (rest := [.int (iI 90001)]) ⟨hx, hb, hml, hown, hts⟩ (x_found1 l hfl D cy ae (mirM M) (h.map mirM) (mirS sl) ([] : List Int32) k (by omega) (by rw [found_mir]; omega)) gL_areAlike_L_found rfl (by decide +kernel) ⟨Nat.le_of_ble_eq_true rfl, Nat.le_of_ble_eq_true rfl⟩ hK hT hC hZ hA rfl hl.1 rfl (Nat.le_of_ble_eq_true rfl) dL_areAlike_177 ⟨show (((((cl1 + 1) + 1) + 1) + 1) + 1) + 1 ≤ 600 by omega, show (((((sl1 + 6 * 1) + 6 * 1) + 6 * 1) + 6 * 1) + 6 * 1) + 6 * 1 ≤ 3600 by omega⟩ hI hS (fun H locs hI hS => ?_)
              have hI : PR D cy A ad ae (M, h, sl, ([] : List Int32)) (mirM M, h.map mirM, mirS sl, ([] : List Int32)) H := hI
              refine z_top (show iI 90001 = iI 90001 from rfl) ?_
              refine z_icmp_ne (tgt := 187) hx hb (iI_t (by omega) (by omega)) (iI_t (by omega) (by omega)) dL_areAlike_180 (by decide) (fun c16 => absurd c16 (by omega)) (fun _ => ?_)
              refine lv_iconst (v := iI 1) hx hb dL_areAlike_183 rfl ?_
              refine lv_goto (tgt := 188) hx hb dL_areAlike_184 (by decide) ?_
              refine lv_istore_n (lv' := [(2, .int (iI 1)), (3, .int (iI k)), (0, .ref (ad 0)), (1, .ref (ae 0))]) hx hb dL_areAlike_188 rfl hl (by decide) rfl (fun ls hl => ?_)
              refine z_iinc (lv' := [(3, .int (iI (k + 1))), (2, .int (iI 1)), (0, .ref (ad 0)), (1, .ref (ae 0))]) hx hb dL_areAlike_189 hl (k := 1) rfl (by decide) rfl (fun ls hl => ?_)
              refine lv_goto (tgt := 129) hx hb dL_areAlike_192 (by decide) ?_
              exact ih1 ((((((cl1 + 1) + 1) + 1) + 1) + 1) + 1) ((((((sl1 + 6 * 1) + 6 * 1) + 6 * 1) + 6 * 1) + 6 * 1) + 6 * 1) (k + 1) (by omega) (by omega) (by omega) _ _ _ hI hS (lv_sub hl [0, 2, 3, 1] rfl)
          · --
            refine lv_aload_n hx hb dL_areAlike_157 rfl (lv_at hl 1 rfl) ?_
            refine lv_iload_n hx hb dL_areAlike_158 rfl (lv_at hl 0 rfl) ?_
            refine pS1 (n := 2) (As := [.int (iI k)]) (rest := []) ⟨hx, hb, hml, hown, hts⟩ (x_diff0 l hfl D cy ad M h sl ([] : List Int32) k (by omega) (by omega) (by omega)) gL_areAlike_L_difference rfl (by decide +kernel) ⟨Nat.le_of_ble_eq_true rfl, Nat.le_of_ble_eq_true rfl⟩ hK hT hC hZ hA rfl hl.1 rfl (Nat.le_of_ble_eq_true rfl) dL_areAlike_159 ⟨show ((cl1 + 1) + 1) + 1 ≤ 600 by omega, show ((sl1 + 6 * 1) + 6 * 1) + 6 * 1 ≤ 3600 by omega⟩ hI hS (fun H locs hI hS => ?_)
            have hI : PR D cy A ad ae (M, h, sl, ([] : List Int32)) (mirM M, h.map mirM, mirS sl, ([] : List Int32)) H := hI
            refine lv_aload_n hx hb dL_areAlike_162 rfl (lv_at hl 2 rfl) ?_
            refine lv_iload_n hx hb dL_areAlike_163 rfl (lv_at hl 0 rfl) ?_
            refine pS2 (n := 2) (As := [.int (iI k)]) (rest := [.int (iI (mD M k))]) ⟨hx, hb, hml, hown, hts⟩ (x_diff0 l hfl D cy ae (mirM M) (h.map mirM) (mirS sl) ([] : List Int32) k (by omega) (by omega) (by omega)) gL_areAlike_L_difference rfl (by decide +kernel) ⟨Nat.le_of_ble_eq_true rfl, Nat.le_of_ble_eq_true rfl⟩ hK hT hC hZ hA rfl hl.1 rfl (Nat.le_of_ble_eq_true rfl) dL_areAlike_164 ⟨show (((cl1 + 1) + 1) + 1) + 1 ≤ 600 by omega, show (((sl1 + 6 * 1) + 6 * 1) + 6 * 1) + 6 * 1 ≤ 3600 by omega⟩ hI hS (fun H locs hI hS => ?_)
            have hI : PR D cy A ad ae (M, h, sl, ([] : List Int32)) (mirM M, h.map mirM, mirS sl, ([] : List Int32)) H := hI
            refine z_top (show (iI (mD (mirM M) k)) = (iI (mD M k)) from by rw [mD_mir (by omega) (by omega)]) ?_
            refine lv_icmp_ne (tgt := 187) hx hb dL_areAlike_167 (by decide) (fun c19 => absurd c19 (fun h9 => h9 rfl)) (fun c19 => ?_)
            by_cases hf1 : k < (M.2.2.1.length : Int)
            · --
              refine lv_aload_n hx hb dL_areAlike_170 rfl (lv_at hl 1 rfl) ?_
              refine lv_iload_n hx hb dL_areAlike_171 rfl (lv_at hl 0 rfl) ?_
              refine pS1 (n := 2) (As := [.int (iI k)]) (rest := []) ⟨hx, hb, hml, hown, hts⟩ (x_found0 l hfl D cy ad M h sl ([] : List Int32) k (by omega) (by omega)) gL_areAlike_L_found rfl (by decide +kernel) ⟨Nat.le_of_ble_eq_true rfl, Nat.le_of_ble_eq_true rfl⟩ hK hT hC hZ hA rfl hl.1 rfl (Nat.le_of_ble_eq_true rfl) dL_areAlike_172 ⟨show ((((cl1 + 1) + 1) + 1) + 1) + 1 ≤ 600 by omega, show ((((sl1 + 6 * 1) + 6 * 1) + 6 * 1) + 6 * 1) + 6 * 1 ≤ 3600 by omega⟩ hI hS (fun H locs hI hS => ?_)
              have hI : PR D cy A ad ae (M, h, sl, ([] : List Int32)) (mirM M, h.map mirM, mirS sl, ([] : List Int32)) H := hI
              refine lv_aload_n hx hb dL_areAlike_175 rfl (lv_at hl 2 rfl) ?_
              refine lv_iload_n hx hb dL_areAlike_176 rfl (lv_at hl 0 rfl) ?_
              refine pS2 (n := 2) (As := [.int (iI k)]) (rest := [.int (gl M.2.2.1 k.toNat)]) ⟨hx, hb, hml, hown, hts⟩ (x_found0 l hfl D cy ae (mirM M) (h.map mirM) (mirS sl) ([] : List Int32) k (by omega) (by rw [found_mir]; omega)) gL_areAlike_L_found rfl (by decide +kernel) ⟨Nat.le_of_ble_eq_true rfl, Nat.le_of_ble_eq_true rfl⟩ hK hT hC hZ hA rfl hl.1 rfl (Nat.le_of_ble_eq_true rfl) dL_areAlike_177 ⟨show (((((cl1 + 1) + 1) + 1) + 1) + 1) + 1 ≤ 600 by omega, show (((((sl1 + 6 * 1) + 6 * 1) + 6 * 1) + 6 * 1) + 6 * 1) + 6 * 1 ≤ 3600 by omega⟩ hI hS (fun H locs hI hS => ?_)
              have hI : PR D cy A ad ae (M, h, sl, ([] : List Int32)) (mirM M, h.map mirM, mirS sl, ([] : List Int32)) H := hI
              refine z_top (show (gl (mirM M).2.2.1 k.toNat) = gl M.2.2.1 k.toNat from rfl) ?_
              refine lv_icmp_ne (tgt := 187) hx hb dL_areAlike_180 (by decide) (fun c22 => absurd c22 (fun h9 => h9 rfl)) (fun c22 => ?_)
              refine lv_iconst (v := iI 1) hx hb dL_areAlike_183 rfl ?_
              refine lv_goto (tgt := 188) hx hb dL_areAlike_184 (by decide) ?_
              refine lv_istore_n (lv' := [(2, .int (iI 1)), (3, .int (iI k)), (0, .ref (ad 0)), (1, .ref (ae 0))]) hx hb dL_areAlike_188 rfl hl (by decide) rfl (fun ls hl => ?_)
              refine z_iinc (lv' := [(3, .int (iI (k + 1))), (2, .int (iI 1)), (0, .ref (ad 0)), (1, .ref (ae 0))]) hx hb dL_areAlike_189 hl (k := 1) rfl (by decide) rfl (fun ls hl => ?_)
              refine lv_goto (tgt := 129) hx hb dL_areAlike_192 (by decide) ?_
              exact ih1 ((((((cl1 + 1) + 1) + 1) + 1) + 1) + 1) ((((((sl1 + 6 * 1) + 6 * 1) + 6 * 1) + 6 * 1) + 6 * 1) + 6 * 1) (k + 1) (by omega) (by omega) (by omega) _ _ _ hI hS (lv_sub hl [0, 2, 3, 1] rfl)
            · --
              refine lv_aload_n hx hb dL_areAlike_170 rfl (lv_at hl 1 rfl) ?_
              refine lv_iload_n hx hb dL_areAlike_171 rfl (lv_at hl 0 rfl) ?_
              refine pS1 (n := 2) (As := [.int (iI k)]) (rest := []) ⟨hx, hb, hml, hown, hts⟩ (x_found1 l hfl D cy ad M h sl ([] : List Int32) k (by omega) (by omega)) gL_areAlike_L_found rfl (by decide +kernel) ⟨Nat.le_of_ble_eq_true rfl, Nat.le_of_ble_eq_true rfl⟩ hK hT hC hZ hA rfl hl.1 rfl (Nat.le_of_ble_eq_true rfl) dL_areAlike_172 ⟨show ((((cl1 + 1) + 1) + 1) + 1) + 1 ≤ 600 by omega, show ((((sl1 + 6 * 1) + 6 * 1) + 6 * 1) + 6 * 1) + 6 * 1 ≤ 3600 by omega⟩ hI hS (fun H locs hI hS => ?_)
              have hI : PR D cy A ad ae (M, h, sl, ([] : List Int32)) (mirM M, h.map mirM, mirS sl, ([] : List Int32)) H := hI
              refine lv_aload_n hx hb dL_areAlike_175 rfl (lv_at hl 2 rfl) ?_
              refine lv_iload_n hx hb dL_areAlike_176 rfl (lv_at hl 0 rfl) ?_
              refine pS2 (n := 2) (As := [.int (iI k)]) (rest := [.int (iI 90001)]) ⟨hx, hb, hml, hown, hts⟩ (x_found1 l hfl D cy ae (mirM M) (h.map mirM) (mirS sl) ([] : List Int32) k (by omega) (by rw [found_mir]; omega)) gL_areAlike_L_found rfl (by decide +kernel) ⟨Nat.le_of_ble_eq_true rfl, Nat.le_of_ble_eq_true rfl⟩ hK hT hC hZ hA rfl hl.1 rfl (Nat.le_of_ble_eq_true rfl) dL_areAlike_177 ⟨show (((((cl1 + 1) + 1) + 1) + 1) + 1) + 1 ≤ 600 by omega, show (((((sl1 + 6 * 1) + 6 * 1) + 6 * 1) + 6 * 1) + 6 * 1) + 6 * 1 ≤ 3600 by omega⟩ hI hS (fun H locs hI hS => ?_)
              have hI : PR D cy A ad ae (M, h, sl, ([] : List Int32)) (mirM M, h.map mirM, mirS sl, ([] : List Int32)) H := hI
              refine z_top (show iI 90001 = iI 90001 from rfl) ?_
              refine z_icmp_ne (tgt := 187) hx hb (iI_t (by omega) (by omega)) (iI_t (by omega) (by omega)) dL_areAlike_180 (by decide) (fun c25 => absurd c25 (by omega)) (fun _ => ?_)
              refine lv_iconst (v := iI 1) hx hb dL_areAlike_183 rfl ?_
              refine lv_goto (tgt := 188) hx hb dL_areAlike_184 (by decide) ?_
              refine lv_istore_n (lv' := [(2, .int (iI 1)), (3, .int (iI k)), (0, .ref (ad 0)), (1, .ref (ae 0))]) hx hb dL_areAlike_188 rfl hl (by decide) rfl (fun ls hl => ?_)
              refine z_iinc (lv' := [(3, .int (iI (k + 1))), (2, .int (iI 1)), (0, .ref (ad 0)), (1, .ref (ae 0))]) hx hb dL_areAlike_189 hl (k := 1) rfl (by decide) rfl (fun ls hl => ?_)
              refine lv_goto (tgt := 129) hx hb dL_areAlike_192 (by decide) ?_
              exact ih1 ((((((cl1 + 1) + 1) + 1) + 1) + 1) + 1) ((((((sl1 + 6 * 1) + 6 * 1) + 6 * 1) + 6 * 1) + 6 * 1) + 6 * 1) (k + 1) (by omega) (by omega) (by omega) _ _ _ hI hS (lv_sub hl [0, 2, 3, 1] rfl)
        · --
          refine lv_aload_n hx hb dL_areAlike_157 rfl (lv_at hl 1 rfl) ?_
          refine lv_iload_n hx hb dL_areAlike_158 rfl (lv_at hl 0 rfl) ?_
          refine pS1 (n := 2) (As := [.int (iI k)]) (rest := []) ⟨hx, hb, hml, hown, hts⟩ (x_diff1 l hfl D cy ad M h sl ([] : List Int32) k (by omega) (by omega)) gL_areAlike_L_difference rfl (by decide +kernel) ⟨Nat.le_of_ble_eq_true rfl, Nat.le_of_ble_eq_true rfl⟩ hK hT hC hZ hA rfl hl.1 rfl (Nat.le_of_ble_eq_true rfl) dL_areAlike_159 ⟨show ((cl1 + 1) + 1) + 1 ≤ 600 by omega, show ((sl1 + 6 * 1) + 6 * 1) + 6 * 1 ≤ 3600 by omega⟩ hI hS (fun H locs hI hS => ?_)
          have hI : PR D cy A ad ae (M, h, sl, ([] : List Int32)) (mirM M, h.map mirM, mirS sl, ([] : List Int32)) H := hI
          refine lv_aload_n hx hb dL_areAlike_162 rfl (lv_at hl 2 rfl) ?_
          refine lv_iload_n hx hb dL_areAlike_163 rfl (lv_at hl 0 rfl) ?_
          refine pS2 (n := 2) (As := [.int (iI k)]) (rest := [.int (iI 90001)]) ⟨hx, hb, hml, hown, hts⟩ (x_diff1 l hfl D cy ae (mirM M) (h.map mirM) (mirS sl) ([] : List Int32) k (by omega) (by omega)) gL_areAlike_L_difference rfl (by decide +kernel) ⟨Nat.le_of_ble_eq_true rfl, Nat.le_of_ble_eq_true rfl⟩ hK hT hC hZ hA rfl hl.1 rfl (Nat.le_of_ble_eq_true rfl) dL_areAlike_164 ⟨show (((cl1 + 1) + 1) + 1) + 1 ≤ 600 by omega, show (((sl1 + 6 * 1) + 6 * 1) + 6 * 1) + 6 * 1 ≤ 3600 by omega⟩ hI hS (fun H locs hI hS => ?_)
          have hI : PR D cy A ad ae (M, h, sl, ([] : List Int32)) (mirM M, h.map mirM, mirS sl, ([] : List Int32)) H := hI
          refine z_top (show iI 90001 = iI 90001 from rfl) ?_
          refine z_icmp_ne (tgt := 187) hx hb (iI_t (by omega) (by omega)) (iI_t (by omega) (by omega)) dL_areAlike_167 (by decide) (fun c28 => absurd c28 (by omega)) (fun _ => ?_)
          by_cases hf1 : k < (M.2.2.1.length : Int)
          · --
            refine lv_aload_n hx hb dL_areAlike_170 rfl (lv_at hl 1 rfl) ?_
            refine lv_iload_n hx hb dL_areAlike_171 rfl (lv_at hl 0 rfl) ?_
            refine pS1 (n := 2) (As := [.int (iI k)]) (rest := []) ⟨hx, hb, hml, hown, hts⟩ (x_found0 l hfl D cy ad M h sl ([] : List Int32) k (by omega) (by omega)) gL_areAlike_L_found rfl (by decide +kernel) ⟨Nat.le_of_ble_eq_true rfl, Nat.le_of_ble_eq_true rfl⟩ hK hT hC hZ hA rfl hl.1 rfl (Nat.le_of_ble_eq_true rfl) dL_areAlike_172 ⟨show ((((cl1 + 1) + 1) + 1) + 1) + 1 ≤ 600 by omega, show ((((sl1 + 6 * 1) + 6 * 1) + 6 * 1) + 6 * 1) + 6 * 1 ≤ 3600 by omega⟩ hI hS (fun H locs hI hS => ?_)
            have hI : PR D cy A ad ae (M, h, sl, ([] : List Int32)) (mirM M, h.map mirM, mirS sl, ([] : List Int32)) H := hI
            refine lv_aload_n hx hb dL_areAlike_175 rfl (lv_at hl 2 rfl) ?_
            refine lv_iload_n hx hb dL_areAlike_176 rfl (lv_at hl 0 rfl) ?_
            refine pS2 (n := 2) (As := [.int (iI k)]) (rest := [.int (gl M.2.2.1 k.toNat)]) ⟨hx, hb, hml, hown, hts⟩ (x_found0 l hfl D cy ae (mirM M) (h.map mirM) (mirS sl) ([] : List Int32) k (by omega) (by rw [found_mir]; omega)) gL_areAlike_L_found rfl (by decide +kernel) ⟨Nat.le_of_ble_eq_true rfl, Nat.le_of_ble_eq_true rfl⟩ hK hT hC hZ hA rfl hl.1 rfl (Nat.le_of_ble_eq_true rfl) dL_areAlike_177 ⟨show (((((cl1 + 1) + 1) + 1) + 1) + 1) + 1 ≤ 600 by omega, show (((((sl1 + 6 * 1) + 6 * 1) + 6 * 1) + 6 * 1) + 6 * 1) + 6 * 1 ≤ 3600 by omega⟩ hI hS (fun H locs hI hS => ?_)
            have hI : PR D cy A ad ae (M, h, sl, ([] : List Int32)) (mirM M, h.map mirM, mirS sl, ([] : List Int32)) H := hI
            refine z_top (show (gl (mirM M).2.2.1 k.toNat) = gl M.2.2.1 k.toNat from rfl) ?_
            refine lv_icmp_ne (tgt := 187) hx hb dL_areAlike_180 (by decide) (fun c31 => absurd c31 (fun h9 => h9 rfl)) (fun c31 => ?_)
            refine lv_iconst (v := iI 1) hx hb dL_areAlike_183 rfl ?_
            refine lv_goto (tgt := 188) hx hb dL_areAlike_184 (by decide) ?_
            refine lv_istore_n (lv' := [(2, .int (iI 1)), (3, .int (iI k)), (0, .ref (ad 0)), (1, .ref (ae 0))]) hx hb dL_areAlike_188 rfl hl (by decide) rfl (fun ls hl => ?_)
            refine z_iinc (lv' := [(3, .int (iI (k + 1))), (2, .int (iI 1)), (0, .ref (ad 0)), (1, .ref (ae 0))]) hx hb dL_areAlike_189 hl (k := 1) rfl (by decide) rfl (fun ls hl => ?_)
            refine lv_goto (tgt := 129) hx hb dL_areAlike_192 (by decide) ?_
            exact ih1 ((((((cl1 + 1) + 1) + 1) + 1) + 1) + 1) ((((((sl1 + 6 * 1) + 6 * 1) + 6 * 1) + 6 * 1) + 6 * 1) + 6 * 1) (k + 1) (by omega) (by omega) (by omega) _ _ _ hI hS (lv_sub hl [0, 2, 3, 1] rfl)
          · --
            refine lv_aload_n hx hb dL_areAlike_170 rfl (lv_at hl 1 rfl) ?_
            refine lv_iload_n hx hb dL_areAlike_171 rfl (lv_at hl 0 rfl) ?_
            refine pS1 (n := 2) (As := [.int (iI k)]) (rest := []) ⟨hx, hb, hml, hown, hts⟩ (x_found1 l hfl D cy ad M h sl ([] : List Int32) k (by omega) (by omega)) gL_areAlike_L_found rfl (by decide +kernel) ⟨Nat.le_of_ble_eq_true rfl, Nat.le_of_ble_eq_true rfl⟩ hK hT hC hZ hA rfl hl.1 rfl (Nat.le_of_ble_eq_true rfl) dL_areAlike_172 ⟨show ((((cl1 + 1) + 1) + 1) + 1) + 1 ≤ 600 by omega, show ((((sl1 + 6 * 1) + 6 * 1) + 6 * 1) + 6 * 1) + 6 * 1 ≤ 3600 by omega⟩ hI hS (fun H locs hI hS => ?_)
            have hI : PR D cy A ad ae (M, h, sl, ([] : List Int32)) (mirM M, h.map mirM, mirS sl, ([] : List Int32)) H := hI
            refine lv_aload_n hx hb dL_areAlike_175 rfl (lv_at hl 2 rfl) ?_
            refine lv_iload_n hx hb dL_areAlike_176 rfl (lv_at hl 0 rfl) ?_
            refine pS2 (n := 2) (As := [.int (iI k)]) (rest := [.int (iI 90001)]) ⟨hx, hb, hml, hown, hts⟩ (x_found1 l hfl D cy ae (mirM M) (h.map mirM) (mirS sl) ([] : List Int32) k (by omega) (by rw [found_mir]; omega)) gL_areAlike_L_found rfl (by decide +kernel) ⟨Nat.le_of_ble_eq_true rfl, Nat.le_of_ble_eq_true rfl⟩ hK hT hC hZ hA rfl hl.1 rfl (Nat.le_of_ble_eq_true rfl) dL_areAlike_177 ⟨show (((((cl1 + 1) + 1) + 1) + 1) + 1) + 1 ≤ 600 by omega, show (((((sl1 + 6 * 1) + 6 * 1) + 6 * 1) + 6 * 1) + 6 * 1) + 6 * 1 ≤ 3600 by omega⟩ hI hS (fun H locs hI hS => ?_)
            have hI : PR D cy A ad ae (M, h, sl, ([] : List Int32)) (mirM M, h.map mirM, mirS sl, ([] : List Int32)) H := hI
            refine z_top (show iI 90001 = iI 90001 from rfl) ?_
            refine z_icmp_ne (tgt := 187) hx hb (iI_t (by omega) (by omega)) (iI_t (by omega) (by omega)) dL_areAlike_180 (by decide) (fun c34 => absurd c34 (by omega)) (fun _ => ?_)
            refine lv_iconst (v := iI 1) hx hb dL_areAlike_183 rfl ?_
            refine lv_goto (tgt := 188) hx hb dL_areAlike_184 (by decide) ?_
            refine lv_istore_n (lv' := [(2, .int (iI 1)), (3, .int (iI k)), (0, .ref (ad 0)), (1, .ref (ae 0))]) hx hb dL_areAlike_188 rfl hl (by decide) rfl (fun ls hl => ?_)
            refine z_iinc (lv' := [(3, .int (iI (k + 1))), (2, .int (iI 1)), (0, .ref (ad 0)), (1, .ref (ae 0))]) hx hb dL_areAlike_189 hl (k := 1) rfl (by decide) rfl (fun ls hl => ?_)
            refine lv_goto (tgt := 129) hx hb dL_areAlike_192 (by decide) ?_
            exact ih1 ((((((cl1 + 1) + 1) + 1) + 1) + 1) + 1) ((((((sl1 + 6 * 1) + 6 * 1) + 6 * 1) + 6 * 1) + 6 * 1) + 6 * 1) (k + 1) (by omega) (by omega) (by omega) _ _ _ hI hS (lv_sub hl [0, 2, 3, 1] rfl)
  exact hloop1 (Int.toNat ((M.1.length : Int) - 0) + 1) 0 0 0 (by omega) (by omega) (by omega) _ _ _ hI hS (lv_sub hl [0, 1, 2, 3] rfl)
set_option maxHeartbeats 8000000 in
set_option maxRecDepth 100000 in
theorem al_0 {p : Program} {l : Launch} {e : Env} {s : State} {m : MethodId} {args : Array Value} {below : List Frame} {meth : Method} {c : Code} {A : Nat → Prop} {Q : State → Prop} {D : va_G} {cy : Nat → ClassId} {ad ae : Nat → Nat} (C : KCA p l s m args c A D cy) {M : MS} {h : List MS} {sl : Nat → Option MS} {tx : List Int32} (kend : KEA p l e s m args below meth c A Q D cy ad ae M h sl tx) (hMI : Inv M) {H : Heap} {locs : List Loc} {ls : Array Slot} (hI : PR D cy A ad ae (M, h, sl, ([] : List Int32)) (mirM M, h.map mirM, mirS sl, ([] : List Int32)) H) (hS : va_S A s.heap H locs) (hl : lv_has ls 4 [(0, .ref (ad 0)), (1, .ref (ae 0))]) : W p l e ({ frames := 10, cells := 600, slots := 6 * 600, locals := 300 } : Room) s m args below meth c H locs 0 0 Q (F0 m 0 ls []) := by
  obtain ⟨hx, hb, hml, hown, hts, hK, hT, hC, hZ, hA, hfl⟩ := id C
  have hM := hMI.1
  have hn := hM.nums
  have hmL : (mirM M).1.length = M.1.length := mirL_len _
  have hmW : (mirM M).2.1.length = M.2.1.length := mirL_len _
  have hM2 := MOk_mir hM
  refine lv_aload_n hx hb dL_areAlike_0 rfl (lv_at hl 0 rfl) ?_
  refine pV1 (n := 0) (As := []) (rest := []) ⟨hx, hb, hml, hown, hts⟩ (x_lineLength l D cy ad M h sl ([] : List Int32)  ) gL_areAlike_X4_lineLength rfl (by decide +kernel) ⟨Nat.le_of_ble_eq_true rfl, Nat.le_of_ble_eq_true rfl⟩ hK hT hA rfl hl.1 rfl (Nat.le_of_ble_eq_true rfl) dL_areAlike_1 ⟨show 0 ≤ 600 by omega, show 0 ≤ 3600 by omega⟩ hI hS (fun H locs hI hS => ?_)
  have hI : PR D cy A ad ae (M, h, sl, ([] : List Int32)) (mirM M, h.map mirM, mirS sl, ([] : List Int32)) H := hI
  refine lv_aload_n hx hb dL_areAlike_4 rfl (lv_at hl 1 rfl) ?_
  refine pV2 (n := 0) (As := []) (rest := [.int (iI (M.1.length : Int))]) ⟨hx, hb, hml, hown, hts⟩ (x_lineLength l D cy ae (mirM M) (h.map mirM) (mirS sl) ([] : List Int32)  ) gL_areAlike_X4_lineLength rfl (by decide +kernel) ⟨Nat.le_of_ble_eq_true rfl, Nat.le_of_ble_eq_true rfl⟩ hK hT hA rfl hl.1 rfl (Nat.le_of_ble_eq_true rfl) dL_areAlike_5 ⟨show 0 ≤ 600 by omega, show 0 ≤ 3600 by omega⟩ hI hS (fun H locs hI hS => ?_)
  have hI : PR D cy A ad ae (M, h, sl, ([] : List Int32)) (mirM M, h.map mirM, mirS sl, ([] : List Int32)) H := hI
  refine z_top (show (iI ((mirM M).1.length : Int)) = (iI (M.1.length : Int)) from by rw [hmL]) ?_
  refine lv_icmp_ne (tgt := 125) hx hb dL_areAlike_8 (by decide) (fun c3 => absurd c3 (fun h9 => h9 rfl)) (fun c3 => ?_)
  refine lv_aload_n hx hb dL_areAlike_11 rfl (lv_at hl 0 rfl) ?_
  refine pV1 (n := 0) (As := []) (rest := []) ⟨hx, hb, hml, hown, hts⟩ (x_wordLength l D cy ad M h sl ([] : List Int32)  ) gL_areAlike_X4_wordLength rfl (by decide +kernel) ⟨Nat.le_of_ble_eq_true rfl, Nat.le_of_ble_eq_true rfl⟩ hK hT hA rfl hl.1 rfl (Nat.le_of_ble_eq_true rfl) dL_areAlike_12 ⟨show 0 ≤ 600 by omega, show 0 ≤ 3600 by omega⟩ hI hS (fun H locs hI hS => ?_)
  have hI : PR D cy A ad ae (M, h, sl, ([] : List Int32)) (mirM M, h.map mirM, mirS sl, ([] : List Int32)) H := hI
  refine lv_aload_n hx hb dL_areAlike_15 rfl (lv_at hl 1 rfl) ?_
  refine pV2 (n := 0) (As := []) (rest := [.int (iI (M.2.1.length : Int))]) ⟨hx, hb, hml, hown, hts⟩ (x_wordLength l D cy ae (mirM M) (h.map mirM) (mirS sl) ([] : List Int32)  ) gL_areAlike_X4_wordLength rfl (by decide +kernel) ⟨Nat.le_of_ble_eq_true rfl, Nat.le_of_ble_eq_true rfl⟩ hK hT hA rfl hl.1 rfl (Nat.le_of_ble_eq_true rfl) dL_areAlike_16 ⟨show 0 ≤ 600 by omega, show 0 ≤ 3600 by omega⟩ hI hS (fun H locs hI hS => ?_)
  have hI : PR D cy A ad ae (M, h, sl, ([] : List Int32)) (mirM M, h.map mirM, mirS sl, ([] : List Int32)) H := hI
  refine z_top (show (iI ((mirM M).2.1.length : Int)) = (iI (M.2.1.length : Int)) from by rw [hmW]) ?_
  refine lv_icmp_ne (tgt := 125) hx hb dL_areAlike_19 (by decide) (fun c6 => absurd c6 (fun h9 => h9 rfl)) (fun c6 => ?_)
  refine lv_aload_n hx hb dL_areAlike_22 rfl (lv_at hl 0 rfl) ?_
  refine pV1 (n := 0) (As := []) (rest := []) ⟨hx, hb, hml, hown, hts⟩ (x_place l D cy ad M h sl ([] : List Int32)  ) gL_areAlike_X4_place rfl (by decide +kernel) ⟨Nat.le_of_ble_eq_true rfl, Nat.le_of_ble_eq_true rfl⟩ hK hT hA rfl hl.1 rfl (Nat.le_of_ble_eq_true rfl) dL_areAlike_23 ⟨show 0 ≤ 600 by omega, show 0 ≤ 3600 by omega⟩ hI hS (fun H locs hI hS => ?_)
  have hI : PR D cy A ad ae (M, h, sl, ([] : List Int32)) (mirM M, h.map mirM, mirS sl, ([] : List Int32)) H := hI
  refine lv_aload_n hx hb dL_areAlike_26 rfl (lv_at hl 1 rfl) ?_
  refine pV2 (n := 0) (As := []) (rest := [.int (iI M.2.2.2.2.2.1)]) ⟨hx, hb, hml, hown, hts⟩ (x_place l D cy ae (mirM M) (h.map mirM) (mirS sl) ([] : List Int32)  ) gL_areAlike_X4_place rfl (by decide +kernel) ⟨Nat.le_of_ble_eq_true rfl, Nat.le_of_ble_eq_true rfl⟩ hK hT hA rfl hl.1 rfl (Nat.le_of_ble_eq_true rfl) dL_areAlike_27 ⟨show 0 ≤ 600 by omega, show 0 ≤ 3600 by omega⟩ hI hS (fun H locs hI hS => ?_)
  have hI : PR D cy A ad ae (M, h, sl, ([] : List Int32)) (mirM M, h.map mirM, mirS sl, ([] : List Int32)) H := hI
  refine z_top (show (iI (mirM M).2.2.2.2.2.1) = (iI M.2.2.2.2.2.1) from rfl) ?_
  refine lv_icmp_ne (tgt := 125) hx hb dL_areAlike_30 (by decide) (fun c9 => absurd c9 (fun h9 => h9 rfl)) (fun c9 => ?_)
  refine lv_aload_n hx hb dL_areAlike_33 rfl (lv_at hl 0 rfl) ?_
  refine pV1 (n := 0) (As := []) (rest := []) ⟨hx, hb, hml, hown, hts⟩ (x_lookCount l D cy ad M h sl ([] : List Int32)  ) gL_areAlike_X4_lookCount rfl (by decide +kernel) ⟨Nat.le_of_ble_eq_true rfl, Nat.le_of_ble_eq_true rfl⟩ hK hT hA rfl hl.1 rfl (Nat.le_of_ble_eq_true rfl) dL_areAlike_34 ⟨show 0 ≤ 600 by omega, show 0 ≤ 3600 by omega⟩ hI hS (fun H locs hI hS => ?_)
  have hI : PR D cy A ad ae (M, h, sl, ([] : List Int32)) (mirM M, h.map mirM, mirS sl, ([] : List Int32)) H := hI
  refine lv_aload_n hx hb dL_areAlike_37 rfl (lv_at hl 1 rfl) ?_
  refine pV2 (n := 0) (As := []) (rest := [.int (iI M.2.2.2.2.2.2.1)]) ⟨hx, hb, hml, hown, hts⟩ (x_lookCount l D cy ae (mirM M) (h.map mirM) (mirS sl) ([] : List Int32)  ) gL_areAlike_X4_lookCount rfl (by decide +kernel) ⟨Nat.le_of_ble_eq_true rfl, Nat.le_of_ble_eq_true rfl⟩ hK hT hA rfl hl.1 rfl (Nat.le_of_ble_eq_true rfl) dL_areAlike_38 ⟨show 0 ≤ 600 by omega, show 0 ≤ 3600 by omega⟩ hI hS (fun H locs hI hS => ?_)
  have hI : PR D cy A ad ae (M, h, sl, ([] : List Int32)) (mirM M, h.map mirM, mirS sl, ([] : List Int32)) H := hI
  refine z_top (show (iI (mirM M).2.2.2.2.2.2.1) = (iI M.2.2.2.2.2.2.1) from rfl) ?_
  refine lv_icmp_ne (tgt := 125) hx hb dL_areAlike_41 (by decide) (fun c12 => absurd c12 (fun h9 => h9 rfl)) (fun c12 => ?_)
  refine lv_aload_n hx hb dL_areAlike_44 rfl (lv_at hl 0 rfl) ?_
  refine pV1 (n := 0) (As := []) (rest := []) ⟨hx, hb, hml, hown, hts⟩ (x_comparedCount l D cy ad M h sl ([] : List Int32)  ) gL_areAlike_X4_comparedCount rfl (by decide +kernel) ⟨Nat.le_of_ble_eq_true rfl, Nat.le_of_ble_eq_true rfl⟩ hK hT hA rfl hl.1 rfl (Nat.le_of_ble_eq_true rfl) dL_areAlike_45 ⟨show 0 ≤ 600 by omega, show 0 ≤ 3600 by omega⟩ hI hS (fun H locs hI hS => ?_)
  have hI : PR D cy A ad ae (M, h, sl, ([] : List Int32)) (mirM M, h.map mirM, mirS sl, ([] : List Int32)) H := hI
  refine lv_aload_n hx hb dL_areAlike_48 rfl (lv_at hl 1 rfl) ?_
  refine pV2 (n := 0) (As := []) (rest := [.int (iI M.2.2.2.2.2.2.2)]) ⟨hx, hb, hml, hown, hts⟩ (x_comparedCount l D cy ae (mirM M) (h.map mirM) (mirS sl) ([] : List Int32)  ) gL_areAlike_X4_comparedCount rfl (by decide +kernel) ⟨Nat.le_of_ble_eq_true rfl, Nat.le_of_ble_eq_true rfl⟩ hK hT hA rfl hl.1 rfl (Nat.le_of_ble_eq_true rfl) dL_areAlike_49 ⟨show 0 ≤ 600 by omega, show 0 ≤ 3600 by omega⟩ hI hS (fun H locs hI hS => ?_)
  have hI : PR D cy A ad ae (M, h, sl, ([] : List Int32)) (mirM M, h.map mirM, mirS sl, ([] : List Int32)) H := hI
  refine z_top (show (iI (mirM M).2.2.2.2.2.2.2) = (iI M.2.2.2.2.2.2.2) from rfl) ?_
  refine lv_icmp_ne (tgt := 125) hx hb dL_areAlike_52 (by decide) (fun c15 => absurd c15 (fun h9 => h9 rfl)) (fun c15 => ?_)
  refine lv_aload_n hx hb dL_areAlike_55 rfl (lv_at hl 0 rfl) ?_
  refine pV1 (n := 0) (As := []) (rest := []) ⟨hx, hb, hml, hown, hts⟩ (x_foundCount l D cy ad M h sl ([] : List Int32)  ) gL_areAlike_X4_foundCount rfl (by decide +kernel) ⟨Nat.le_of_ble_eq_true rfl, Nat.le_of_ble_eq_true rfl⟩ hK hT hA rfl hl.1 rfl (Nat.le_of_ble_eq_true rfl) dL_areAlike_56 ⟨show 0 ≤ 600 by omega, show 0 ≤ 3600 by omega⟩ hI hS (fun H locs hI hS => ?_)
  have hI : PR D cy A ad ae (M, h, sl, ([] : List Int32)) (mirM M, h.map mirM, mirS sl, ([] : List Int32)) H := hI
  refine lv_aload_n hx hb dL_areAlike_59 rfl (lv_at hl 1 rfl) ?_
  refine pV2 (n := 0) (As := []) (rest := [.int (iI (M.2.2.1.length : Int))]) ⟨hx, hb, hml, hown, hts⟩ (x_foundCount l D cy ae (mirM M) (h.map mirM) (mirS sl) ([] : List Int32)  ) gL_areAlike_X4_foundCount rfl (by decide +kernel) ⟨Nat.le_of_ble_eq_true rfl, Nat.le_of_ble_eq_true rfl⟩ hK hT hA rfl hl.1 rfl (Nat.le_of_ble_eq_true rfl) dL_areAlike_60 ⟨show 0 ≤ 600 by omega, show 0 ≤ 3600 by omega⟩ hI hS (fun H locs hI hS => ?_)
  have hI : PR D cy A ad ae (M, h, sl, ([] : List Int32)) (mirM M, h.map mirM, mirS sl, ([] : List Int32)) H := hI
  refine z_top (show (iI ((mirM M).2.2.1.length : Int)) = (iI (M.2.2.1.length : Int)) from rfl) ?_
  refine lv_icmp_ne (tgt := 125) hx hb dL_areAlike_63 (by decide) (fun c18 => absurd c18 (fun h9 => h9 rfl)) (fun c18 => ?_)
  refine lv_aload_n hx hb dL_areAlike_66 rfl (lv_at hl 0 rfl) ?_
  refine pV1 (n := 0) (As := []) (rest := []) ⟨hx, hb, hml, hown, hts⟩ (x_skippedPlaces l D cy ad M h sl ([] : List Int32)  ) gL_areAlike_X4_skippedPlaces rfl (by decide +kernel) ⟨Nat.le_of_ble_eq_true rfl, Nat.le_of_ble_eq_true rfl⟩ hK hT hA rfl hl.1 rfl (Nat.le_of_ble_eq_true rfl) dL_areAlike_67 ⟨show 0 ≤ 600 by omega, show 0 ≤ 3600 by omega⟩ hI hS (fun H locs hI hS => ?_)
  have hI : PR D cy A ad ae (M, h, sl, ([] : List Int32)) (mirM M, h.map mirM, mirS sl, ([] : List Int32)) H := hI
  refine lv_aload_n hx hb dL_areAlike_70 rfl (lv_at hl 1 rfl) ?_
  refine pV2 (n := 0) (As := []) (rest := [.int (iI (min M.2.2.2.2.2.1 (max ((M.1.length : Int) - (M.2.1.length : Int) + 1) 0) - M.2.2.2.2.2.2.1))]) ⟨hx, hb, hml, hown, hts⟩ (x_skippedPlaces l D cy ae (mirM M) (h.map mirM) (mirS sl) ([] : List Int32)  ) gL_areAlike_X4_skippedPlaces rfl (by decide +kernel) ⟨Nat.le_of_ble_eq_true rfl, Nat.le_of_ble_eq_true rfl⟩ hK hT hA rfl hl.1 rfl (Nat.le_of_ble_eq_true rfl) dL_areAlike_71 ⟨show 0 ≤ 600 by omega, show 0 ≤ 3600 by omega⟩ hI hS (fun H locs hI hS => ?_)
  have hI : PR D cy A ad ae (M, h, sl, ([] : List Int32)) (mirM M, h.map mirM, mirS sl, ([] : List Int32)) H := hI
  refine z_top (show (iI (min (mirM M).2.2.2.2.2.1 (max (((mirM M).1.length : Int) - ((mirM M).2.1.length : Int) + 1) 0) - (mirM M).2.2.2.2.2.2.1)) = (iI (min M.2.2.2.2.2.1 (max ((M.1.length : Int) - (M.2.1.length : Int) + 1) 0) - M.2.2.2.2.2.2.1)) from by first | (rw [hmL, hmW]; done) | (rw [hmL, hmW]; rfl)) ?_
  refine lv_icmp_ne (tgt := 125) hx hb dL_areAlike_74 (by decide) (fun c21 => absurd c21 (fun h9 => h9 rfl)) (fun c21 => ?_)
  refine lv_aload_n hx hb dL_areAlike_77 rfl (lv_at hl 0 rfl) ?_
  refine pV1 (n := 0) (As := []) (rest := []) ⟨hx, hb, hml, hown, hts⟩ (x_border l D cy ad M h sl ([] : List Int32)  ) gL_areAlike_X4_border rfl (by decide +kernel) ⟨Nat.le_of_ble_eq_true rfl, Nat.le_of_ble_eq_true rfl⟩ hK hT hA rfl hl.1 rfl (Nat.le_of_ble_eq_true rfl) dL_areAlike_78 ⟨show 0 ≤ 600 by omega, show 0 ≤ 3600 by omega⟩ hI hS (fun H locs hI hS => ?_)
  have hI : PR D cy A ad ae (M, h, sl, ([] : List Int32)) (mirM M, h.map mirM, mirS sl, ([] : List Int32)) H := hI
  refine lv_aload_n hx hb dL_areAlike_81 rfl (lv_at hl 1 rfl) ?_
  refine pV2 (n := 0) (As := []) (rest := [.int (iI ((M.2.1.length : Int) - (perF M.2.1.length (gl M.2.1) : Int)))]) ⟨hx, hb, hml, hown, hts⟩ (x_border l D cy ae (mirM M) (h.map mirM) (mirS sl) ([] : List Int32)  ) gL_areAlike_X4_border rfl (by decide +kernel) ⟨Nat.le_of_ble_eq_true rfl, Nat.le_of_ble_eq_true rfl⟩ hK hT hA rfl hl.1 rfl (Nat.le_of_ble_eq_true rfl) dL_areAlike_82 ⟨show 0 ≤ 600 by omega, show 0 ≤ 3600 by omega⟩ hI hS (fun H locs hI hS => ?_)
  have hI : PR D cy A ad ae (M, h, sl, ([] : List Int32)) (mirM M, h.map mirM, mirS sl, ([] : List Int32)) H := hI
  refine z_top (show (iI (((mirM M).2.1.length : Int) - (perF (mirM M).2.1.length (gl (mirM M).2.1) : Int))) = (iI ((M.2.1.length : Int) - (perF M.2.1.length (gl M.2.1) : Int))) from by show iI (((mirL M.2.1).length : Int) - (perF (mirL M.2.1).length (gl (mirL M.2.1)) : Int)) = _; rw [perW_mir, mirL_len]) ?_
  refine lv_icmp_ne (tgt := 125) hx hb dL_areAlike_85 (by decide) (fun c24 => absurd c24 (fun h9 => h9 rfl)) (fun c24 => ?_)
  refine lv_aload_n hx hb dL_areAlike_88 rfl (lv_at hl 0 rfl) ?_
  refine pV1 (n := 0) (As := []) (rest := []) ⟨hx, hb, hml, hown, hts⟩ (x_period l D cy ad M h sl ([] : List Int32)  ) gL_areAlike_X4_period rfl (by decide +kernel) ⟨Nat.le_of_ble_eq_true rfl, Nat.le_of_ble_eq_true rfl⟩ hK hT hA rfl hl.1 rfl (Nat.le_of_ble_eq_true rfl) dL_areAlike_89 ⟨show 0 ≤ 600 by omega, show 0 ≤ 3600 by omega⟩ hI hS (fun H locs hI hS => ?_)
  have hI : PR D cy A ad ae (M, h, sl, ([] : List Int32)) (mirM M, h.map mirM, mirS sl, ([] : List Int32)) H := hI
  refine lv_aload_n hx hb dL_areAlike_92 rfl (lv_at hl 1 rfl) ?_
  refine pV2 (n := 0) (As := []) (rest := [.int (iI ((perF M.2.1.length (gl M.2.1) : Int)))]) ⟨hx, hb, hml, hown, hts⟩ (x_period l D cy ae (mirM M) (h.map mirM) (mirS sl) ([] : List Int32)  ) gL_areAlike_X4_period rfl (by decide +kernel) ⟨Nat.le_of_ble_eq_true rfl, Nat.le_of_ble_eq_true rfl⟩ hK hT hA rfl hl.1 rfl (Nat.le_of_ble_eq_true rfl) dL_areAlike_93 ⟨show 0 ≤ 600 by omega, show 0 ≤ 3600 by omega⟩ hI hS (fun H locs hI hS => ?_)
  have hI : PR D cy A ad ae (M, h, sl, ([] : List Int32)) (mirM M, h.map mirM, mirS sl, ([] : List Int32)) H := hI
  refine z_top (show (iI ((perF (mirM M).2.1.length (gl (mirM M).2.1) : Int))) = (iI ((perF M.2.1.length (gl M.2.1) : Int))) from by show iI ((perF (mirL M.2.1).length (gl (mirL M.2.1)) : Int)) = _; rw [perW_mir]) ?_
  refine lv_icmp_ne (tgt := 125) hx hb dL_areAlike_96 (by decide) (fun c27 => absurd c27 (fun h9 => h9 rfl)) (fun c27 => ?_)
  refine lv_aload_n hx hb dL_areAlike_99 rfl (lv_at hl 0 rfl) ?_
  refine pV1 (n := 0) (As := []) (rest := []) ⟨hx, hb, hml, hown, hts⟩ (x_occurrences l D cy ad M h sl ([] : List Int32)  ) gL_areAlike_X4_occurrences rfl (by decide +kernel) ⟨Nat.le_of_ble_eq_true rfl, Nat.le_of_ble_eq_true rfl⟩ hK hT hA rfl hl.1 rfl (Nat.le_of_ble_eq_true rfl) dL_areAlike_100 ⟨show 0 ≤ 600 by omega, show 0 ≤ 3600 by omega⟩ hI hS (fun H locs hI hS => ?_)
  have hI : PR D cy A ad ae (M, h, sl, ([] : List Int32)) (mirM M, h.map mirM, mirS sl, ([] : List Int32)) H := hI
  refine lv_aload_n hx hb dL_areAlike_103 rfl (lv_at hl 1 rfl) ?_
  refine pV2 (n := 0) (As := []) (rest := [.int (iI (occF M))]) ⟨hx, hb, hml, hown, hts⟩ (x_occurrencesByTrying l D cy ae (mirM M) (h.map mirM) (mirS sl) ([] : List Int32)  ) gL_areAlike_X4_occurrencesByTrying rfl (by decide +kernel) ⟨Nat.le_of_ble_eq_true rfl, Nat.le_of_ble_eq_true rfl⟩ hK hT hA rfl hl.1 rfl (Nat.le_of_ble_eq_true rfl) dL_areAlike_104 ⟨show 0 ≤ 600 by omega, show 0 ≤ 3600 by omega⟩ hI hS (fun H locs hI hS => ?_)
  have hI : PR D cy A ad ae (M, h, sl, ([] : List Int32)) (mirM M, h.map mirM, mirS sl, ([] : List Int32)) H := hI
  refine z_top (show (iI (occF (mirM M))) = (iI (occF M)) from by rw [occF_mir]) ?_
  refine lv_icmp_ne (tgt := 125) hx hb dL_areAlike_107 (by decide) (fun c30 => absurd c30 (fun h9 => h9 rfl)) (fun c30 => ?_)
  refine lv_aload_n hx hb dL_areAlike_110 rfl (lv_at hl 0 rfl) ?_
  refine pV1 (n := 0) (As := []) (rest := []) ⟨hx, hb, hml, hown, hts⟩ (x_undoCount l D cy ad M h sl ([] : List Int32)  ) gL_areAlike_X4_undoCount rfl (by decide +kernel) ⟨Nat.le_of_ble_eq_true rfl, Nat.le_of_ble_eq_true rfl⟩ hK hT hA rfl hl.1 rfl (Nat.le_of_ble_eq_true rfl) dL_areAlike_111 ⟨show 0 ≤ 600 by omega, show 0 ≤ 3600 by omega⟩ hI hS (fun H locs hI hS => ?_)
  have hI : PR D cy A ad ae (M, h, sl, ([] : List Int32)) (mirM M, h.map mirM, mirS sl, ([] : List Int32)) H := hI
  refine lv_aload_n hx hb dL_areAlike_114 rfl (lv_at hl 1 rfl) ?_
  refine pV2 (n := 0) (As := []) (rest := [.int (iI (h.length : Int))]) ⟨hx, hb, hml, hown, hts⟩ (x_undoCount l D cy ae (mirM M) (h.map mirM) (mirS sl) ([] : List Int32)  ) gL_areAlike_X4_undoCount rfl (by decide +kernel) ⟨Nat.le_of_ble_eq_true rfl, Nat.le_of_ble_eq_true rfl⟩ hK hT hA rfl hl.1 rfl (Nat.le_of_ble_eq_true rfl) dL_areAlike_115 ⟨show 0 ≤ 600 by omega, show 0 ≤ 3600 by omega⟩ hI hS (fun H locs hI hS => ?_)
  have hI : PR D cy A ad ae (M, h, sl, ([] : List Int32)) (mirM M, h.map mirM, mirS sl, ([] : List Int32)) H := hI
  refine z_top (show (iI ((h.map mirM).length : Int)) = (iI (h.length : Int)) from by rw [List.length_map]) ?_
  refine lv_icmp_ne (tgt := 125) hx hb dL_areAlike_118 (by decide) (fun c33 => absurd c33 (fun h9 => h9 rfl)) (fun c33 => ?_)
  refine lv_iconst (v := iI 1) hx hb dL_areAlike_121 rfl ?_
  refine lv_goto (tgt := 126) hx hb dL_areAlike_122 (by decide) ?_
  refine lv_istore_n (lv' := [(2, .int (iI 1)), (0, .ref (ad 0)), (1, .ref (ae 0))]) hx hb dL_areAlike_126 rfl hl (by decide) rfl (fun ls hl => ?_)
  exact al_127 C kend hMI hI hS (lv_sub hl [1, 2, 0] rfl)
set_option maxHeartbeats 8000000 in
set_option maxRecDepth 100000 in
theorem c_L_areAlike (l : Launch) (hfl : l.stackTraces = false) (D : va_G) (cy : Nat → ClassId) (ad ae : Nat → Nat) (M : MS) (h : List MS) (sl : Nat → Option MS) (hMI : Inv M) : YNi l D cy ad ae yL_areAlike wsL_areAlike 10 300 600 [] (M, h, sl, []) (mirM M, h.map mirM, mirS sl, []) (fun r S' T' => r = iI 1) := by
  intro u v J1 J2
  refine Nc_of (cc := cL_areAlike) (maxL := 4) (ret := (some .boolean)) (by decide) rfl rfl ?_
  intro p e s m args below meth c A hx hb hr hts hown hlocks hml hP hK hD hT hC hZ hA ls hl
  have hS : va_S A s.heap s.heap [] := va_S.rf
  have hl : lv_has ls 4 [(0, .ref (ad 0)), (1, .ref (ae 0))] := hl
  have hI : PR D cy A ad ae (M, h, sl, []) (mirM M, h.map mirM, mirS sl, []) s.heap := ⟨u, v, J1, J2, hP, hD⟩
  have C : KCA p l s m args c A D cy := ⟨hx, hb, hml, hown, hts, hK, hT, hC, hZ, hA, hfl⟩
  refine al_0 (tx := []) C ?_ hMI hI hS hl
  intro pc ls H locs c1 s1 hd hI hS q1 q2
  obtain ⟨u1, v1, j1, j2, hP, hD⟩ := hI
  refine W.widen (k := 600) (n := 6 * 600) q1 q2 ?_
  exact z_zret hx hb hr hlocks (by decide +kernel) hS (u1, v1) ⟨_, _, rfl, j1, j2⟩ hP hd

