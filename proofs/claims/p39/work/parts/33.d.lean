/-! isStep: its instructions and its calls' words -/
theorem dL_isStep_0 : decode cL_isStep 0 = .ok (.iload_n 2, 1) := by decide +kernel
theorem dL_isStep_1 : decode cL_isStep 1 = .ok (.iconst 4, 1) := by decide +kernel
theorem dL_isStep_2 : decode cL_isStep 2 = .ok (.ishr, 1) := by decide +kernel
theorem dL_isStep_3 : decode cL_isStep 3 = .ok (.istore 4, 2) := by decide +kernel
theorem dL_isStep_5 : decode cL_isStep 5 = .ok (.iconst 1, 1) := by decide +kernel
theorem dL_isStep_6 : decode cL_isStep 6 = .ok (.iload 4, 2) := by decide +kernel
theorem dL_isStep_8 : decode cL_isStep 8 = .ok (.iload 4, 2) := by decide +kernel
theorem dL_isStep_10 : decode cL_isStep 10 = .ok (.iconst 3, 1) := by decide +kernel
theorem dL_isStep_11 : decode cL_isStep 11 = .ok (.ishr, 1) := by decide +kernel
theorem dL_isStep_12 : decode cL_isStep 12 = .ok (.iconst 3, 1) := by decide +kernel
theorem dL_isStep_13 : decode cL_isStep 13 = .ok (.invokestatic 77, 3) := by decide +kernel
theorem dL_isStep_16 : decode cL_isStep 16 = .ok (.ifCond .ne 8, 3) := by decide +kernel
theorem dL_isStep_19 : decode cL_isStep 19 = .ok (.bipush 26, 2) := by decide +kernel
theorem dL_isStep_21 : decode cL_isStep 21 = .ok (.goto 4, 3) := by decide +kernel
theorem dL_isStep_24 : decode cL_isStep 24 = .ok (.iconst 3, 1) := by decide +kernel
theorem dL_isStep_25 : decode cL_isStep 25 = .ok (.invokestatic 77, 3) := by decide +kernel
theorem dL_isStep_28 : decode cL_isStep 28 = .ok (.iadd, 1) := by decide +kernel
theorem dL_isStep_29 : decode cL_isStep 29 = .ok (.istore 5, 2) := by decide +kernel
theorem dL_isStep_31 : decode cL_isStep 31 = .ok (.aload_n 0, 1) := by decide +kernel
theorem dL_isStep_32 : decode cL_isStep 32 = .ok (.invokevirtual 80, 3) := by decide +kernel
theorem dL_isStep_35 : decode cL_isStep 35 = .ok (.istore 6, 2) := by decide +kernel
theorem dL_isStep_37 : decode cL_isStep 37 = .ok (.iload_n 2, 1) := by decide +kernel
theorem dL_isStep_38 : decode cL_isStep 38 = .ok (.bipush 22, 2) := by decide +kernel
theorem dL_isStep_40 : decode cL_isStep 40 = .ok (.invokestatic 77, 3) := by decide +kernel
theorem dL_isStep_43 : decode cL_isStep 43 = .ok (.tableswitch 673 0 13 #[69, 69, 195, 195, 195, 390, 390, 447, 447, 489, 506, 506, 608, 656], 69) := by decide +kernel
theorem dL_isStep_112 : decode cL_isStep 112 = .ok (.iload_n 3, 1) := by decide +kernel
theorem dL_isStep_113 : decode cL_isStep 113 = .ok (.bipush 61, 2) := by decide +kernel
theorem dL_isStep_115 : decode cL_isStep 115 = .ok (.invokestatic 77, 3) := by decide +kernel
theorem dL_isStep_118 : decode cL_isStep 118 = .ok (.istore 7, 2) := by decide +kernel
theorem dL_isStep_120 : decode cL_isStep 120 = .ok (.aload_n 0, 1) := by decide +kernel
theorem dL_isStep_121 : decode cL_isStep 121 = .ok (.invokevirtual 83, 3) := by decide +kernel
theorem dL_isStep_124 : decode cL_isStep 124 = .ok (.aload_n 1, 1) := by decide +kernel
theorem dL_isStep_125 : decode cL_isStep 125 = .ok (.invokevirtual 83, 3) := by decide +kernel
theorem dL_isStep_128 : decode cL_isStep 128 = .ok (.if_icmp .ne 7, 3) := by decide +kernel
theorem dL_isStep_131 : decode cL_isStep 131 = .ok (.iconst 1, 1) := by decide +kernel
theorem dL_isStep_132 : decode cL_isStep 132 = .ok (.goto 4, 3) := by decide +kernel
theorem dL_isStep_135 : decode cL_isStep 135 = .ok (.iconst 0, 1) := by decide +kernel
theorem dL_isStep_136 : decode cL_isStep 136 = .ok (.istore 8, 2) := by decide +kernel
theorem dL_isStep_138 : decode cL_isStep 138 = .ok (.iconst 0, 1) := by decide +kernel
theorem dL_isStep_139 : decode cL_isStep 139 = .ok (.istore 9, 2) := by decide +kernel
theorem dL_isStep_141 : decode cL_isStep 141 = .ok (.iload 9, 2) := by decide +kernel
theorem dL_isStep_143 : decode cL_isStep 143 = .ok (.iload 7, 2) := by decide +kernel
theorem dL_isStep_145 : decode cL_isStep 145 = .ok (.if_icmp .ge 50, 3) := by decide +kernel
theorem dL_isStep_148 : decode cL_isStep 148 = .ok (.iload 8, 2) := by decide +kernel
theorem dL_isStep_150 : decode cL_isStep 150 = .ok (.ifCond .eq 36, 3) := by decide +kernel
theorem dL_isStep_153 : decode cL_isStep 153 = .ok (.aload_n 0, 1) := by decide +kernel
theorem dL_isStep_154 : decode cL_isStep 154 = .ok (.aload_n 1, 1) := by decide +kernel
theorem dL_isStep_155 : decode cL_isStep 155 = .ok (.iload_n 3, 1) := by decide +kernel
theorem dL_isStep_156 : decode cL_isStep 156 = .ok (.iload 9, 2) := by decide +kernel
theorem dL_isStep_158 : decode cL_isStep 158 = .ok (.bipush 17, 2) := by decide +kernel
theorem dL_isStep_160 : decode cL_isStep 160 = .ok (.irem, 1) := by decide +kernel
theorem dL_isStep_161 : decode cL_isStep 161 = .ok (.ishr, 1) := by decide +kernel
theorem dL_isStep_162 : decode cL_isStep 162 = .ok (.iload 4, 2) := by decide +kernel
theorem dL_isStep_164 : decode cL_isStep 164 = .ok (.iload 9, 2) := by decide +kernel
theorem dL_isStep_166 : decode cL_isStep 166 = .ok (.bipush 23, 2) := by decide +kernel
theorem dL_isStep_168 : decode cL_isStep 168 = .ok (.irem, 1) := by decide +kernel
theorem dL_isStep_169 : decode cL_isStep 169 = .ok (.ishr, 1) := by decide +kernel
theorem dL_isStep_170 : decode cL_isStep 170 = .ok (.ixor, 1) := by decide +kernel
theorem dL_isStep_171 : decode cL_isStep 171 = .ok (.iload 5, 2) := by decide +kernel
theorem dL_isStep_173 : decode cL_isStep 173 = .ok (.invokestatic 77, 3) := by decide +kernel
theorem dL_isStep_176 : decode cL_isStep 176 = .ok (.invokestatic 86, 3) := by decide +kernel
theorem dL_isStep_179 : decode cL_isStep 179 = .ok (.ifCond .eq 7, 3) := by decide +kernel
theorem dL_isStep_182 : decode cL_isStep 182 = .ok (.iconst 1, 1) := by decide +kernel
theorem dL_isStep_183 : decode cL_isStep 183 = .ok (.goto 4, 3) := by decide +kernel
theorem dL_isStep_186 : decode cL_isStep 186 = .ok (.iconst 0, 1) := by decide +kernel
theorem dL_isStep_187 : decode cL_isStep 187 = .ok (.istore 8, 2) := by decide +kernel
theorem dL_isStep_189 : decode cL_isStep 189 = .ok (.iinc 9 1, 3) := by decide +kernel
theorem dL_isStep_192 : decode cL_isStep 192 = .ok (.goto (-51), 3) := by decide +kernel
theorem dL_isStep_195 : decode cL_isStep 195 = .ok (.iload 8, 2) := by decide +kernel
theorem dL_isStep_197 : decode cL_isStep 197 = .ok (.ifCond .eq 39, 3) := by decide +kernel
theorem dL_isStep_200 : decode cL_isStep 200 = .ok (.aload_n 0, 1) := by decide +kernel
theorem dL_isStep_201 : decode cL_isStep 201 = .ok (.invokestatic 90, 3) := by decide +kernel
theorem dL_isStep_204 : decode cL_isStep 204 = .ok (.iload 7, 2) := by decide +kernel
theorem dL_isStep_206 : decode cL_isStep 206 = .ok (.if_icmp .ne 30, 3) := by decide +kernel
theorem dL_isStep_209 : decode cL_isStep 209 = .ok (.aload_n 1, 1) := by decide +kernel
theorem dL_isStep_210 : decode cL_isStep 210 = .ok (.invokestatic 90, 3) := by decide +kernel
theorem dL_isStep_213 : decode cL_isStep 213 = .ok (.iload 7, 2) := by decide +kernel
theorem dL_isStep_215 : decode cL_isStep 215 = .ok (.if_icmp .ne 21, 3) := by decide +kernel
theorem dL_isStep_218 : decode cL_isStep 218 = .ok (.aload_n 0, 1) := by decide +kernel
theorem dL_isStep_219 : decode cL_isStep 219 = .ok (.invokevirtual 93, 3) := by decide +kernel
theorem dL_isStep_222 : decode cL_isStep 222 = .ok (.ifCond .ne 14, 3) := by decide +kernel
theorem dL_isStep_225 : decode cL_isStep 225 = .ok (.aload_n 0, 1) := by decide +kernel
theorem dL_isStep_226 : decode cL_isStep 226 = .ok (.invokevirtual 96, 3) := by decide +kernel
theorem dL_isStep_229 : decode cL_isStep 229 = .ok (.ifCond .ne 7, 3) := by decide +kernel
theorem dL_isStep_232 : decode cL_isStep 232 = .ok (.iconst 1, 1) := by decide +kernel
theorem dL_isStep_233 : decode cL_isStep 233 = .ok (.goto 4, 3) := by decide +kernel
theorem dL_isStep_236 : decode cL_isStep 236 = .ok (.iconst 0, 1) := by decide +kernel
theorem dL_isStep_237 : decode cL_isStep 237 = .ok (.ireturn, 1) := by decide +kernel
theorem dL_isStep_238 : decode cL_isStep 238 = .ok (.iload_n 3, 1) := by decide +kernel
theorem dL_isStep_239 : decode cL_isStep 239 = .ok (.iload 4, 2) := by decide +kernel
theorem dL_isStep_241 : decode cL_isStep 241 = .ok (.iconst 3, 1) := by decide +kernel
theorem dL_isStep_242 : decode cL_isStep 242 = .ok (.invokestatic 77, 3) := by decide +kernel
theorem dL_isStep_245 : decode cL_isStep 245 = .ok (.ifCond .ne 8, 3) := by decide +kernel
theorem dL_isStep_248 : decode cL_isStep 248 = .ok (.bipush 17, 2) := by decide +kernel
theorem dL_isStep_250 : decode cL_isStep 250 = .ok (.goto 5, 3) := by decide +kernel
theorem dL_isStep_253 : decode cL_isStep 253 = .ok (.bipush 6, 2) := by decide +kernel
theorem dL_isStep_255 : decode cL_isStep 255 = .ok (.invokestatic 77, 3) := by decide +kernel
theorem dL_isStep_258 : decode cL_isStep 258 = .ok (.istore 7, 2) := by decide +kernel
theorem dL_isStep_260 : decode cL_isStep 260 = .ok (.iload 6, 2) := by decide +kernel
theorem dL_isStep_262 : decode cL_isStep 262 = .ok (.iload 7, 2) := by decide +kernel
theorem dL_isStep_264 : decode cL_isStep 264 = .ok (.if_icmp .lt 12, 3) := by decide +kernel
theorem dL_isStep_267 : decode cL_isStep 267 = .ok (.iload 4, 2) := by decide +kernel
theorem dL_isStep_269 : decode cL_isStep 269 = .ok (.iconst 4, 1) := by decide +kernel
theorem dL_isStep_270 : decode cL_isStep 270 = .ok (.invokestatic 77, 3) := by decide +kernel
theorem dL_isStep_273 : decode cL_isStep 273 = .ok (.ifCond .ne 7, 3) := by decide +kernel
theorem dL_isStep_276 : decode cL_isStep 276 = .ok (.iconst (-1), 1) := by decide +kernel
theorem dL_isStep_277 : decode cL_isStep 277 = .ok (.goto 16, 3) := by decide +kernel
theorem dL_isStep_280 : decode cL_isStep 280 = .ok (.iload_n 3, 1) := by decide +kernel
theorem dL_isStep_281 : decode cL_isStep 281 = .ok (.iconst 3, 1) := by decide +kernel
theorem dL_isStep_282 : decode cL_isStep 282 = .ok (.ishr, 1) := by decide +kernel
theorem dL_isStep_283 : decode cL_isStep 283 = .ok (.iload 6, 2) := by decide +kernel
theorem dL_isStep_285 : decode cL_isStep 285 = .ok (.iload 7, 2) := by decide +kernel
theorem dL_isStep_287 : decode cL_isStep 287 = .ok (.isub, 1) := by decide +kernel
theorem dL_isStep_288 : decode cL_isStep 288 = .ok (.iconst 1, 1) := by decide +kernel
theorem dL_isStep_289 : decode cL_isStep 289 = .ok (.iadd, 1) := by decide +kernel
theorem dL_isStep_290 : decode cL_isStep 290 = .ok (.invokestatic 77, 3) := by decide +kernel
theorem dL_isStep_293 : decode cL_isStep 293 = .ok (.istore 8, 2) := by decide +kernel
theorem dL_isStep_295 : decode cL_isStep 295 = .ok (.aload_n 0, 1) := by decide +kernel
theorem dL_isStep_296 : decode cL_isStep 296 = .ok (.invokevirtual 83, 3) := by decide +kernel
theorem dL_isStep_299 : decode cL_isStep 299 = .ok (.aload_n 1, 1) := by decide +kernel
theorem dL_isStep_300 : decode cL_isStep 300 = .ok (.invokevirtual 83, 3) := by decide +kernel
theorem dL_isStep_303 : decode cL_isStep 303 = .ok (.if_icmp .ne 7, 3) := by decide +kernel
theorem dL_isStep_306 : decode cL_isStep 306 = .ok (.iconst 1, 1) := by decide +kernel
theorem dL_isStep_307 : decode cL_isStep 307 = .ok (.goto 4, 3) := by decide +kernel
theorem dL_isStep_310 : decode cL_isStep 310 = .ok (.iconst 0, 1) := by decide +kernel
theorem dL_isStep_311 : decode cL_isStep 311 = .ok (.istore 9, 2) := by decide +kernel
theorem dL_isStep_313 : decode cL_isStep 313 = .ok (.iconst 0, 1) := by decide +kernel
theorem dL_isStep_314 : decode cL_isStep 314 = .ok (.istore 10, 2) := by decide +kernel
theorem dL_isStep_316 : decode cL_isStep 316 = .ok (.iload 10, 2) := by decide +kernel
theorem dL_isStep_318 : decode cL_isStep 318 = .ok (.iload 7, 2) := by decide +kernel
theorem dL_isStep_320 : decode cL_isStep 320 = .ok (.if_icmp .ge 67, 3) := by decide +kernel
theorem dL_isStep_323 : decode cL_isStep 323 = .ok (.iload 9, 2) := by decide +kernel
theorem dL_isStep_325 : decode cL_isStep 325 = .ok (.ifCond .eq 53, 3) := by decide +kernel
theorem dL_isStep_328 : decode cL_isStep 328 = .ok (.aload_n 0, 1) := by decide +kernel
theorem dL_isStep_329 : decode cL_isStep 329 = .ok (.aload_n 1, 1) := by decide +kernel
theorem dL_isStep_330 : decode cL_isStep 330 = .ok (.iload 8, 2) := by decide +kernel
theorem dL_isStep_332 : decode cL_isStep 332 = .ok (.ifCond .ge 27, 3) := by decide +kernel
theorem dL_isStep_335 : decode cL_isStep 335 = .ok (.iload_n 3, 1) := by decide +kernel
theorem dL_isStep_336 : decode cL_isStep 336 = .ok (.iload 10, 2) := by decide +kernel
theorem dL_isStep_338 : decode cL_isStep 338 = .ok (.bipush 19, 2) := by decide +kernel
theorem dL_isStep_340 : decode cL_isStep 340 = .ok (.irem, 1) := by decide +kernel
theorem dL_isStep_341 : decode cL_isStep 341 = .ok (.ishr, 1) := by decide +kernel
theorem dL_isStep_342 : decode cL_isStep 342 = .ok (.iload 4, 2) := by decide +kernel
theorem dL_isStep_344 : decode cL_isStep 344 = .ok (.iload 10, 2) := by decide +kernel
theorem dL_isStep_346 : decode cL_isStep 346 = .ok (.bipush 23, 2) := by decide +kernel
theorem dL_isStep_348 : decode cL_isStep 348 = .ok (.irem, 1) := by decide +kernel
theorem dL_isStep_349 : decode cL_isStep 349 = .ok (.ishr, 1) := by decide +kernel
theorem dL_isStep_350 : decode cL_isStep 350 = .ok (.ixor, 1) := by decide +kernel
theorem dL_isStep_351 : decode cL_isStep 351 = .ok (.iload 5, 2) := by decide +kernel
theorem dL_isStep_353 : decode cL_isStep 353 = .ok (.invokestatic 77, 3) := by decide +kernel
theorem dL_isStep_356 : decode cL_isStep 356 = .ok (.goto 12, 3) := by decide +kernel
theorem dL_isStep_359 : decode cL_isStep 359 = .ok (.aload_n 0, 1) := by decide +kernel
theorem dL_isStep_360 : decode cL_isStep 360 = .ok (.iload 8, 2) := by decide +kernel
theorem dL_isStep_362 : decode cL_isStep 362 = .ok (.iload 10, 2) := by decide +kernel
theorem dL_isStep_364 : decode cL_isStep 364 = .ok (.iadd, 1) := by decide +kernel
theorem dL_isStep_365 : decode cL_isStep 365 = .ok (.invokestatic 99, 3) := by decide +kernel
theorem dL_isStep_368 : decode cL_isStep 368 = .ok (.invokestatic 86, 3) := by decide +kernel
theorem dL_isStep_371 : decode cL_isStep 371 = .ok (.ifCond .eq 7, 3) := by decide +kernel
theorem dL_isStep_374 : decode cL_isStep 374 = .ok (.iconst 1, 1) := by decide +kernel
theorem dL_isStep_375 : decode cL_isStep 375 = .ok (.goto 4, 3) := by decide +kernel
theorem dL_isStep_378 : decode cL_isStep 378 = .ok (.iconst 0, 1) := by decide +kernel
theorem dL_isStep_379 : decode cL_isStep 379 = .ok (.istore 9, 2) := by decide +kernel
theorem dL_isStep_381 : decode cL_isStep 381 = .ok (.iinc 10 1, 3) := by decide +kernel
theorem dL_isStep_384 : decode cL_isStep 384 = .ok (.goto (-68), 3) := by decide +kernel
theorem dL_isStep_387 : decode cL_isStep 387 = .ok (.iload 9, 2) := by decide +kernel
theorem dL_isStep_389 : decode cL_isStep 389 = .ok (.ifCond .eq 42, 3) := by decide +kernel
theorem dL_isStep_392 : decode cL_isStep 392 = .ok (.aload_n 0, 1) := by decide +kernel
theorem dL_isStep_393 : decode cL_isStep 393 = .ok (.invokestatic 102, 3) := by decide +kernel
theorem dL_isStep_396 : decode cL_isStep 396 = .ok (.iload 7, 2) := by decide +kernel
theorem dL_isStep_398 : decode cL_isStep 398 = .ok (.if_icmp .ne 33, 3) := by decide +kernel
theorem dL_isStep_401 : decode cL_isStep 401 = .ok (.aload_n 1, 1) := by decide +kernel
theorem dL_isStep_402 : decode cL_isStep 402 = .ok (.invokestatic 102, 3) := by decide +kernel
theorem dL_isStep_405 : decode cL_isStep 405 = .ok (.iload 7, 2) := by decide +kernel
theorem dL_isStep_407 : decode cL_isStep 407 = .ok (.if_icmp .ne 24, 3) := by decide +kernel
theorem dL_isStep_410 : decode cL_isStep 410 = .ok (.iload 7, 2) := by decide +kernel
theorem dL_isStep_412 : decode cL_isStep 412 = .ok (.ifCond .eq 15, 3) := by decide +kernel
theorem dL_isStep_415 : decode cL_isStep 415 = .ok (.iload 8, 2) := by decide +kernel
theorem dL_isStep_417 : decode cL_isStep 417 = .ok (.ifCond .lt 10, 3) := by decide +kernel
theorem dL_isStep_420 : decode cL_isStep 420 = .ok (.aload_n 0, 1) := by decide +kernel
theorem dL_isStep_421 : decode cL_isStep 421 = .ok (.invokevirtual 104, 3) := by decide +kernel
theorem dL_isStep_424 : decode cL_isStep 424 = .ok (.ifCond .le 7, 3) := by decide +kernel
theorem dL_isStep_427 : decode cL_isStep 427 = .ok (.iconst 1, 1) := by decide +kernel
theorem dL_isStep_428 : decode cL_isStep 428 = .ok (.goto 4, 3) := by decide +kernel
theorem dL_isStep_431 : decode cL_isStep 431 = .ok (.iconst 0, 1) := by decide +kernel
theorem dL_isStep_432 : decode cL_isStep 432 = .ok (.ireturn, 1) := by decide +kernel
theorem dL_isStep_433 : decode cL_isStep 433 = .ok (.iload_n 3, 1) := by decide +kernel
theorem dL_isStep_434 : decode cL_isStep 434 = .ok (.iconst 2, 1) := by decide +kernel
theorem dL_isStep_435 : decode cL_isStep 435 = .ok (.invokestatic 77, 3) := by decide +kernel
theorem dL_isStep_438 : decode cL_isStep 438 = .ok (.ifCond .ne 7, 3) := by decide +kernel
theorem dL_isStep_441 : decode cL_isStep 441 = .ok (.iconst 1, 1) := by decide +kernel
theorem dL_isStep_442 : decode cL_isStep 442 = .ok (.goto 4, 3) := by decide +kernel
theorem dL_isStep_445 : decode cL_isStep 445 = .ok (.iconst 0, 1) := by decide +kernel
theorem dL_isStep_446 : decode cL_isStep 446 = .ok (.istore 7, 2) := by decide +kernel
theorem dL_isStep_448 : decode cL_isStep 448 = .ok (.iload_n 3, 1) := by decide +kernel
theorem dL_isStep_449 : decode cL_isStep 449 = .ok (.iconst 1, 1) := by decide +kernel
theorem dL_isStep_450 : decode cL_isStep 450 = .ok (.ishr, 1) := by decide +kernel
theorem dL_isStep_451 : decode cL_isStep 451 = .ok (.iconst 2, 1) := by decide +kernel
theorem dL_isStep_452 : decode cL_isStep 452 = .ok (.invokestatic 77, 3) := by decide +kernel
theorem dL_isStep_455 : decode cL_isStep 455 = .ok (.ifCond .ne 7, 3) := by decide +kernel
theorem dL_isStep_458 : decode cL_isStep 458 = .ok (.iconst 1, 1) := by decide +kernel
theorem dL_isStep_459 : decode cL_isStep 459 = .ok (.goto 4, 3) := by decide +kernel
theorem dL_isStep_462 : decode cL_isStep 462 = .ok (.iconst 0, 1) := by decide +kernel
theorem dL_isStep_463 : decode cL_isStep 463 = .ok (.istore 8, 2) := by decide +kernel
theorem dL_isStep_465 : decode cL_isStep 465 = .ok (.aload_n 0, 1) := by decide +kernel
theorem dL_isStep_466 : decode cL_isStep 466 = .ok (.iload 7, 2) := by decide +kernel
theorem dL_isStep_468 : decode cL_isStep 468 = .ok (.iload 8, 2) := by decide +kernel
theorem dL_isStep_470 : decode cL_isStep 470 = .ok (.invokevirtual 107, 3) := by decide +kernel
theorem dL_isStep_473 : decode cL_isStep 473 = .ok (.aload_n 1, 1) := by decide +kernel
theorem dL_isStep_474 : decode cL_isStep 474 = .ok (.iload 7, 2) := by decide +kernel
theorem dL_isStep_476 : decode cL_isStep 476 = .ok (.iload 8, 2) := by decide +kernel
theorem dL_isStep_478 : decode cL_isStep 478 = .ok (.invokevirtual 107, 3) := by decide +kernel
theorem dL_isStep_481 : decode cL_isStep 481 = .ok (.if_icmp .ne 7, 3) := by decide +kernel
theorem dL_isStep_484 : decode cL_isStep 484 = .ok (.iconst 1, 1) := by decide +kernel
theorem dL_isStep_485 : decode cL_isStep 485 = .ok (.goto 4, 3) := by decide +kernel
theorem dL_isStep_488 : decode cL_isStep 488 = .ok (.iconst 0, 1) := by decide +kernel
theorem dL_isStep_489 : decode cL_isStep 489 = .ok (.ireturn, 1) := by decide +kernel
theorem dL_isStep_490 : decode cL_isStep 490 = .ok (.aload_n 0, 1) := by decide +kernel
theorem dL_isStep_491 : decode cL_isStep 491 = .ok (.invokevirtual 111, 3) := by decide +kernel
theorem dL_isStep_494 : decode cL_isStep 494 = .ok (.aload_n 1, 1) := by decide +kernel
theorem dL_isStep_495 : decode cL_isStep 495 = .ok (.invokevirtual 111, 3) := by decide +kernel
theorem dL_isStep_498 : decode cL_isStep 498 = .ok (.if_icmp .ne 32, 3) := by decide +kernel
theorem dL_isStep_501 : decode cL_isStep 501 = .ok (.aload_n 0, 1) := by decide +kernel
theorem dL_isStep_502 : decode cL_isStep 502 = .ok (.invokevirtual 114, 3) := by decide +kernel
theorem dL_isStep_505 : decode cL_isStep 505 = .ok (.ifCond .eq 25, 3) := by decide +kernel
theorem dL_isStep_508 : decode cL_isStep 508 = .ok (.aload_n 0, 1) := by decide +kernel
theorem dL_isStep_509 : decode cL_isStep 509 = .ok (.invokevirtual 118, 3) := by decide +kernel
theorem dL_isStep_512 : decode cL_isStep 512 = .ok (.ifCond .eq 14, 3) := by decide +kernel
theorem dL_isStep_515 : decode cL_isStep 515 = .ok (.aload_n 0, 1) := by decide +kernel
theorem dL_isStep_516 : decode cL_isStep 516 = .ok (.invokevirtual 121, 3) := by decide +kernel
theorem dL_isStep_519 : decode cL_isStep 519 = .ok (.aload_n 0, 1) := by decide +kernel
theorem dL_isStep_520 : decode cL_isStep 520 = .ok (.invokevirtual 104, 3) := by decide +kernel
theorem dL_isStep_523 : decode cL_isStep 523 = .ok (.if_icmp .ne 7, 3) := by decide +kernel
theorem dL_isStep_526 : decode cL_isStep 526 = .ok (.iconst 1, 1) := by decide +kernel
theorem dL_isStep_527 : decode cL_isStep 527 = .ok (.goto 4, 3) := by decide +kernel
theorem dL_isStep_530 : decode cL_isStep 530 = .ok (.iconst 0, 1) := by decide +kernel
theorem dL_isStep_531 : decode cL_isStep 531 = .ok (.ireturn, 1) := by decide +kernel
theorem dL_isStep_532 : decode cL_isStep 532 = .ok (.aload_n 0, 1) := by decide +kernel
theorem dL_isStep_533 : decode cL_isStep 533 = .ok (.invokevirtual 124, 3) := by decide +kernel
theorem dL_isStep_536 : decode cL_isStep 536 = .ok (.aload_n 1, 1) := by decide +kernel
theorem dL_isStep_537 : decode cL_isStep 537 = .ok (.invokevirtual 124, 3) := by decide +kernel
theorem dL_isStep_540 : decode cL_isStep 540 = .ok (.if_icmp .ne 7, 3) := by decide +kernel
theorem dL_isStep_543 : decode cL_isStep 543 = .ok (.iconst 1, 1) := by decide +kernel
theorem dL_isStep_544 : decode cL_isStep 544 = .ok (.goto 4, 3) := by decide +kernel
theorem dL_isStep_547 : decode cL_isStep 547 = .ok (.iconst 0, 1) := by decide +kernel
theorem dL_isStep_548 : decode cL_isStep 548 = .ok (.ireturn, 1) := by decide +kernel
theorem dL_isStep_549 : decode cL_isStep 549 = .ok (.iload_n 3, 1) := by decide +kernel
theorem dL_isStep_550 : decode cL_isStep 550 = .ok (.iload 6, 2) := by decide +kernel
theorem dL_isStep_552 : decode cL_isStep 552 = .ok (.iconst 1, 1) := by decide +kernel
theorem dL_isStep_553 : decode cL_isStep 553 = .ok (.iadd, 1) := by decide +kernel
theorem dL_isStep_554 : decode cL_isStep 554 = .ok (.invokestatic 77, 3) := by decide +kernel
theorem dL_isStep_557 : decode cL_isStep 557 = .ok (.istore 7, 2) := by decide +kernel
theorem dL_isStep_559 : decode cL_isStep 559 = .ok (.iload 4, 2) := by decide +kernel
theorem dL_isStep_561 : decode cL_isStep 561 = .ok (.iconst 4, 1) := by decide +kernel
theorem dL_isStep_562 : decode cL_isStep 562 = .ok (.invokestatic 77, 3) := by decide +kernel
theorem dL_isStep_565 : decode cL_isStep 565 = .ok (.istore 8, 2) := by decide +kernel
theorem dL_isStep_567 : decode cL_isStep 567 = .ok (.aload_n 0, 1) := by decide +kernel
theorem dL_isStep_568 : decode cL_isStep 568 = .ok (.iload 7, 2) := by decide +kernel
theorem dL_isStep_570 : decode cL_isStep 570 = .ok (.iload 8, 2) := by decide +kernel
theorem dL_isStep_572 : decode cL_isStep 572 = .ok (.invokestatic 127, 3) := by decide +kernel
theorem dL_isStep_575 : decode cL_isStep 575 = .ok (.istore 9, 2) := by decide +kernel
theorem dL_isStep_577 : decode cL_isStep 577 = .ok (.iload 9, 2) := by decide +kernel
theorem dL_isStep_579 : decode cL_isStep 579 = .ok (.ldc 17, 2) := by decide +kernel
theorem dL_isStep_581 : decode cL_isStep 581 = .ok (.if_icmp .ne 34, 3) := by decide +kernel
theorem dL_isStep_584 : decode cL_isStep 584 = .ok (.iload 7, 2) := by decide +kernel
theorem dL_isStep_586 : decode cL_isStep 586 = .ok (.iload 6, 2) := by decide +kernel
theorem dL_isStep_588 : decode cL_isStep 588 = .ok (.if_icmp .ne 23, 3) := by decide +kernel
theorem dL_isStep_591 : decode cL_isStep 591 = .ok (.aload_n 1, 1) := by decide +kernel
theorem dL_isStep_592 : decode cL_isStep 592 = .ok (.iload 7, 2) := by decide +kernel
theorem dL_isStep_594 : decode cL_isStep 594 = .ok (.bipush 25, 2) := by decide +kernel
theorem dL_isStep_596 : decode cL_isStep 596 = .ok (.iload 8, 2) := by decide +kernel
theorem dL_isStep_598 : decode cL_isStep 598 = .ok (.isub, 1) := by decide +kernel
theorem dL_isStep_599 : decode cL_isStep 599 = .ok (.invokestatic 127, 3) := by decide +kernel
theorem dL_isStep_602 : decode cL_isStep 602 = .ok (.ldc 17, 2) := by decide +kernel
theorem dL_isStep_604 : decode cL_isStep 604 = .ok (.if_icmp .ne 7, 3) := by decide +kernel
theorem dL_isStep_607 : decode cL_isStep 607 = .ok (.iconst 1, 1) := by decide +kernel
theorem dL_isStep_608 : decode cL_isStep 608 = .ok (.goto 42, 3) := by decide +kernel
theorem dL_isStep_611 : decode cL_isStep 611 = .ok (.iconst 0, 1) := by decide +kernel
theorem dL_isStep_612 : decode cL_isStep 612 = .ok (.goto 38, 3) := by decide +kernel
theorem dL_isStep_615 : decode cL_isStep 615 = .ok (.aload_n 1, 1) := by decide +kernel
theorem dL_isStep_616 : decode cL_isStep 616 = .ok (.iload 7, 2) := by decide +kernel
theorem dL_isStep_618 : decode cL_isStep 618 = .ok (.bipush 25, 2) := by decide +kernel
theorem dL_isStep_620 : decode cL_isStep 620 = .ok (.iload 8, 2) := by decide +kernel
theorem dL_isStep_622 : decode cL_isStep 622 = .ok (.isub, 1) := by decide +kernel
theorem dL_isStep_623 : decode cL_isStep 623 = .ok (.invokestatic 127, 3) := by decide +kernel
theorem dL_isStep_626 : decode cL_isStep 626 = .ok (.bipush 25, 2) := by decide +kernel
theorem dL_isStep_628 : decode cL_isStep 628 = .ok (.iload 9, 2) := by decide +kernel
theorem dL_isStep_630 : decode cL_isStep 630 = .ok (.isub, 1) := by decide +kernel
theorem dL_isStep_631 : decode cL_isStep 631 = .ok (.if_icmp .ne 18, 3) := by decide +kernel
theorem dL_isStep_634 : decode cL_isStep 634 = .ok (.aload_n 0, 1) := by decide +kernel
theorem dL_isStep_635 : decode cL_isStep 635 = .ok (.iload 7, 2) := by decide +kernel
theorem dL_isStep_637 : decode cL_isStep 637 = .ok (.invokestatic 99, 3) := by decide +kernel
theorem dL_isStep_640 : decode cL_isStep 640 = .ok (.iload 8, 2) := by decide +kernel
theorem dL_isStep_642 : decode cL_isStep 642 = .ok (.if_icmp .ne 7, 3) := by decide +kernel
theorem dL_isStep_645 : decode cL_isStep 645 = .ok (.iconst 1, 1) := by decide +kernel
theorem dL_isStep_646 : decode cL_isStep 646 = .ok (.goto 4, 3) := by decide +kernel
theorem dL_isStep_649 : decode cL_isStep 649 = .ok (.iconst 0, 1) := by decide +kernel
theorem dL_isStep_650 : decode cL_isStep 650 = .ok (.ireturn, 1) := by decide +kernel
theorem dL_isStep_651 : decode cL_isStep 651 = .ok (.iload_n 3, 1) := by decide +kernel
theorem dL_isStep_652 : decode cL_isStep 652 = .ok (.iconst 2, 1) := by decide +kernel
theorem dL_isStep_653 : decode cL_isStep 653 = .ok (.invokestatic 77, 3) := by decide +kernel
theorem dL_isStep_656 : decode cL_isStep 656 = .ok (.ifCond .ne 24, 3) := by decide +kernel
theorem dL_isStep_659 : decode cL_isStep 659 = .ok (.aload_n 0, 1) := by decide +kernel
theorem dL_isStep_660 : decode cL_isStep 660 = .ok (.iconst 0, 1) := by decide +kernel
theorem dL_isStep_661 : decode cL_isStep 661 = .ok (.invokestatic 130, 3) := by decide +kernel
theorem dL_isStep_664 : decode cL_isStep 664 = .ok (.aload_n 1, 1) := by decide +kernel
theorem dL_isStep_665 : decode cL_isStep 665 = .ok (.iconst 0, 1) := by decide +kernel
theorem dL_isStep_666 : decode cL_isStep 666 = .ok (.invokestatic 130, 3) := by decide +kernel
theorem dL_isStep_669 : decode cL_isStep 669 = .ok (.if_icmp .ne 7, 3) := by decide +kernel
theorem dL_isStep_672 : decode cL_isStep 672 = .ok (.iconst 1, 1) := by decide +kernel
theorem dL_isStep_673 : decode cL_isStep 673 = .ok (.goto 25, 3) := by decide +kernel
theorem dL_isStep_676 : decode cL_isStep 676 = .ok (.iconst 0, 1) := by decide +kernel
theorem dL_isStep_677 : decode cL_isStep 677 = .ok (.goto 21, 3) := by decide +kernel
theorem dL_isStep_680 : decode cL_isStep 680 = .ok (.aload_n 0, 1) := by decide +kernel
theorem dL_isStep_681 : decode cL_isStep 681 = .ok (.iconst 0, 1) := by decide +kernel
theorem dL_isStep_682 : decode cL_isStep 682 = .ok (.invokestatic 133, 3) := by decide +kernel
theorem dL_isStep_685 : decode cL_isStep 685 = .ok (.aload_n 1, 1) := by decide +kernel
theorem dL_isStep_686 : decode cL_isStep 686 = .ok (.iconst 0, 1) := by decide +kernel
theorem dL_isStep_687 : decode cL_isStep 687 = .ok (.invokestatic 133, 3) := by decide +kernel
theorem dL_isStep_690 : decode cL_isStep 690 = .ok (.if_icmp .ne 7, 3) := by decide +kernel
theorem dL_isStep_693 : decode cL_isStep 693 = .ok (.iconst 1, 1) := by decide +kernel
theorem dL_isStep_694 : decode cL_isStep 694 = .ok (.goto 4, 3) := by decide +kernel
theorem dL_isStep_697 : decode cL_isStep 697 = .ok (.iconst 0, 1) := by decide +kernel
theorem dL_isStep_698 : decode cL_isStep 698 = .ok (.ireturn, 1) := by decide +kernel
theorem dL_isStep_699 : decode cL_isStep 699 = .ok (.aload_n 0, 1) := by decide +kernel
theorem dL_isStep_700 : decode cL_isStep 700 = .ok (.invokestatic 136, 3) := by decide +kernel
theorem dL_isStep_703 : decode cL_isStep 703 = .ok (.aload_n 1, 1) := by decide +kernel
theorem dL_isStep_704 : decode cL_isStep 704 = .ok (.invokestatic 136, 3) := by decide +kernel
theorem dL_isStep_707 : decode cL_isStep 707 = .ok (.if_icmp .ne 7, 3) := by decide +kernel
theorem dL_isStep_710 : decode cL_isStep 710 = .ok (.iconst 1, 1) := by decide +kernel
theorem dL_isStep_711 : decode cL_isStep 711 = .ok (.goto 4, 3) := by decide +kernel
theorem dL_isStep_714 : decode cL_isStep 714 = .ok (.iconst 0, 1) := by decide +kernel
theorem dL_isStep_715 : decode cL_isStep 715 = .ok (.ireturn, 1) := by decide +kernel
theorem dL_isStep_716 : decode cL_isStep 716 = .ok (.aload_n 0, 1) := by decide +kernel
theorem dL_isStep_717 : decode cL_isStep 717 = .ok (.invokevirtual 93, 3) := by decide +kernel
theorem dL_isStep_720 : decode cL_isStep 720 = .ok (.istore 7, 2) := by decide +kernel
theorem dL_isStep_722 : decode cL_isStep 722 = .ok (.aload_n 0, 1) := by decide +kernel
theorem dL_isStep_723 : decode cL_isStep 723 = .ok (.invokevirtual 114, 3) := by decide +kernel
theorem dL_isStep_726 : decode cL_isStep 726 = .ok (.istore 8, 2) := by decide +kernel
theorem dL_isStep_728 : decode cL_isStep 728 = .ok (.iload 8, 2) := by decide +kernel
theorem dL_isStep_730 : decode cL_isStep 730 = .ok (.ifCond .eq 7, 3) := by decide +kernel
theorem dL_isStep_733 : decode cL_isStep 733 = .ok (.iconst 0, 1) := by decide +kernel
theorem dL_isStep_734 : decode cL_isStep 734 = .ok (.goto 9, 3) := by decide +kernel
theorem dL_isStep_737 : decode cL_isStep 737 = .ok (.aload_n 0, 1) := by decide +kernel
theorem dL_isStep_738 : decode cL_isStep 738 = .ok (.iload 7, 2) := by decide +kernel
theorem dL_isStep_740 : decode cL_isStep 740 = .ok (.invokestatic 138, 3) := by decide +kernel
theorem dL_isStep_743 : decode cL_isStep 743 = .ok (.istore 9, 2) := by decide +kernel
theorem dL_isStep_745 : decode cL_isStep 745 = .ok (.aload_n 0, 1) := by decide +kernel
theorem dL_isStep_746 : decode cL_isStep 746 = .ok (.invokestatic 141, 3) := by decide +kernel
theorem dL_isStep_749 : decode cL_isStep 749 = .ok (.istore 10, 2) := by decide +kernel
theorem dL_isStep_751 : decode cL_isStep 751 = .ok (.iload 10, 2) := by decide +kernel
theorem dL_isStep_753 : decode cL_isStep 753 = .ok (.aload_n 1, 1) := by decide +kernel
theorem dL_isStep_754 : decode cL_isStep 754 = .ok (.invokestatic 141, 3) := by decide +kernel
theorem dL_isStep_757 : decode cL_isStep 757 = .ok (.if_icmp .ne 54, 3) := by decide +kernel
theorem dL_isStep_760 : decode cL_isStep 760 = .ok (.iload 8, 2) := by decide +kernel
theorem dL_isStep_762 : decode cL_isStep 762 = .ok (.ifCond .eq 13, 3) := by decide +kernel
theorem dL_isStep_765 : decode cL_isStep 765 = .ok (.iload 10, 2) := by decide +kernel
theorem dL_isStep_767 : decode cL_isStep 767 = .ok (.ldc 17, 2) := by decide +kernel
theorem dL_isStep_769 : decode cL_isStep 769 = .ok (.if_icmp .ne 42, 3) := by decide +kernel
theorem dL_isStep_772 : decode cL_isStep 772 = .ok (.goto 35, 3) := by decide +kernel
theorem dL_isStep_775 : decode cL_isStep 775 = .ok (.aload_n 0, 1) := by decide +kernel
theorem dL_isStep_776 : decode cL_isStep 776 = .ok (.invokevirtual 93, 3) := by decide +kernel
theorem dL_isStep_779 : decode cL_isStep 779 = .ok (.iload 7, 2) := by decide +kernel
theorem dL_isStep_781 : decode cL_isStep 781 = .ok (.iload 10, 2) := by decide +kernel
theorem dL_isStep_783 : decode cL_isStep 783 = .ok (.iadd, 1) := by decide +kernel
theorem dL_isStep_784 : decode cL_isStep 784 = .ok (.if_icmp .ne 27, 3) := by decide +kernel
theorem dL_isStep_787 : decode cL_isStep 787 = .ok (.iload 10, 2) := by decide +kernel
theorem dL_isStep_789 : decode cL_isStep 789 = .ok (.iconst 1, 1) := by decide +kernel
theorem dL_isStep_790 : decode cL_isStep 790 = .ok (.if_icmp .lt 21, 3) := by decide +kernel
theorem dL_isStep_793 : decode cL_isStep 793 = .ok (.iload 9, 2) := by decide +kernel
theorem dL_isStep_795 : decode cL_isStep 795 = .ok (.ifCond .ge 12, 3) := by decide +kernel
theorem dL_isStep_798 : decode cL_isStep 798 = .ok (.iload 10, 2) := by decide +kernel
theorem dL_isStep_800 : decode cL_isStep 800 = .ok (.aload_n 0, 1) := by decide +kernel
theorem dL_isStep_801 : decode cL_isStep 801 = .ok (.invokevirtual 143, 3) := by decide +kernel
theorem dL_isStep_804 : decode cL_isStep 804 = .ok (.if_icmp .ne 7, 3) := by decide +kernel
theorem dL_isStep_807 : decode cL_isStep 807 = .ok (.iconst 1, 1) := by decide +kernel
theorem dL_isStep_808 : decode cL_isStep 808 = .ok (.goto 4, 3) := by decide +kernel
theorem dL_isStep_811 : decode cL_isStep 811 = .ok (.iconst 0, 1) := by decide +kernel
theorem dL_isStep_812 : decode cL_isStep 812 = .ok (.ireturn, 1) := by decide +kernel
set_option maxRecDepth 20000 in
theorem ggL_isStep_L_up : GoodIn wsL_isStep wsL_up := goodIn_r _ [5, 6] (by decide +kernel) (by decide +kernel)
set_option maxRecDepth 20000 in
theorem gL_isStep_L_up : GoodIn wsL_isStep (va_wsS RL 77 yL_up wsL_up) := goodIn_app (goodIn_of _ (by decide +kernel)) ggL_isStep_L_up
set_option maxRecDepth 20000 in
theorem ggL_isStep_X4_lineLength : GoodIn wsL_isStep wsX4_lineLength := goodIn_r _ [11, 12, 13, 14, 15, 16, 17, 18, 340, 341, 342, 343, 344, 345, 346, 347, 348, 349, 350, 351, 352, 353, 354, 355, 356] (by decide +kernel) (by decide +kernel)
set_option maxRecDepth 20000 in
theorem gL_isStep_X4_lineLength : GoodIn wsL_isStep (wsV RL 80 RX4 yX4_lineLength wsX4_lineLength) := goodIn_app (goodIn_of _ (by decide +kernel)) ggL_isStep_X4_lineLength
set_option maxRecDepth 20000 in
theorem ggL_isStep_X4_clearText : GoodIn wsL_isStep wsX4_clearText := goodIn_r _ [22, 23, 13, 14, 15, 16, 17, 18, 24, 25, 26, 27, 340, 341, 342, 343, 344, 345, 346, 355, 356] (by decide +kernel) (by decide +kernel)
set_option maxRecDepth 20000 in
theorem gL_isStep_X4_clearText : GoodIn wsL_isStep (wsV RL 83 RX4 yX4_clearText wsX4_clearText) := goodIn_app (goodIn_of _ (by decide +kernel)) ggL_isStep_X4_clearText
set_option maxRecDepth 20000 in
theorem ggL_isStep_L_both : GoodIn wsL_isStep wsL_both := goodIn_ca (goodIn_ca (goodIn_r _ [30, 31, 32, 4, 33, 34, 35, 1, 36, 37, 38, 39, 10, 40, 41, 42, 43, 44, 23, 45, 46, 47, 48, 49, 50, 51, 52, 53, 54, 13, 14, 15, 16, 17, 18, 55, 56, 57, 58, 59, 340, 341, 342, 343, 344, 345, 346, 355, 356] (by decide +kernel) (by decide +kernel)) (goodIn_sub (fun _ h => List.mem_cons_of_mem _ (List.mem_append_left _ (List.mem_append_left _ (List.mem_append_right _ h)))) (by decide +kernel))) (goodIn_sub (fun _ h => List.mem_cons_of_mem _ (List.mem_append_left _ (List.mem_append_right _ h))) (by decide +kernel))
set_option maxRecDepth 20000 in
theorem gL_isStep_L_both : GoodIn wsL_isStep (va_wsS RL 86 yL_both wsL_both) := goodIn_app (goodIn_of _ (by decide +kernel)) ggL_isStep_L_both
set_option maxRecDepth 20000 in
theorem ggL_isStep_L_takeLine : GoodIn wsL_isStep wsL_takeLine := goodIn_ca (goodIn_r _ [62, 35, 1, 63, 64, 65, 10, 66, 67, 12, 68, 69, 70, 71, 43, 44, 23, 72, 73, 74, 75, 13, 14, 15, 16, 17, 18, 76, 77, 78, 79, 59, 80, 81, 82, 83, 84, 85, 86, 87, 88, 89, 90, 91, 92, 93, 94, 95, 96, 97, 98, 99, 100, 101, 102, 103, 104, 105, 106, 107, 108, 109, 110, 111, 112, 25, 26, 27, 113, 56, 57, 58, 114, 115, 116, 117, 24, 55, 118, 119, 120, 121, 122, 340, 341, 342, 343, 344, 345, 346, 347, 348, 349, 350, 351, 352, 353, 354, 355, 356, 357, 358] (by decide +kernel) (by decide +kernel)) (goodIn_sub (fun _ h => List.mem_cons_of_mem _ (List.mem_append_left _ (List.mem_append_right _ h))) (by decide +kernel))
set_option maxRecDepth 20000 in
theorem gL_isStep_L_takeLine : GoodIn wsL_isStep (va_wsS RL 90 yL_takeLine wsL_takeLine) := goodIn_app (goodIn_of _ (by decide +kernel)) ggL_isStep_L_takeLine
set_option maxRecDepth 20000 in
theorem ggL_isStep_X4_place : GoodIn wsL_isStep wsX4_place := goodIn_r _ [126, 12, 340, 341, 342, 343, 344, 345, 346, 347, 348, 349, 350, 351, 352, 353, 354] (by decide +kernel) (by decide +kernel)
set_option maxRecDepth 20000 in
theorem gL_isStep_X4_place : GoodIn wsL_isStep (wsV RL 93 RX4 yX4_place wsX4_place) := goodIn_app (goodIn_of _ (by decide +kernel)) ggL_isStep_X4_place
set_option maxRecDepth 20000 in
theorem ggL_isStep_X4_lookCount : GoodIn wsL_isStep wsX4_lookCount := goodIn_r _ [130, 12, 340, 341, 342, 343, 344, 345, 346, 347, 348, 349, 350, 351, 352, 353, 354] (by decide +kernel) (by decide +kernel)
set_option maxRecDepth 20000 in
theorem gL_isStep_X4_lookCount : GoodIn wsL_isStep (wsV RL 96 RX4 yX4_lookCount wsX4_lookCount) := goodIn_app (goodIn_of _ (by decide +kernel)) ggL_isStep_X4_lookCount
set_option maxRecDepth 20000 in
theorem ggL_isStep_L_lineLetter : GoodIn wsL_isStep wsL_lineLetter := goodIn_ca (goodIn_r _ [133, 134, 1, 135, 136, 137, 10, 138, 12, 139, 140, 141, 142, 143, 144, 81, 82, 16, 83, 18, 76, 77, 78, 79, 59, 80, 340, 341, 342, 343, 344, 345, 346, 347, 348, 349, 350, 351, 352, 353, 354, 355, 356] (by decide +kernel) (by decide +kernel)) (goodIn_sub (fun _ h => List.mem_cons_of_mem _ (List.mem_append_right _ h)) (by decide +kernel))
set_option maxRecDepth 20000 in
theorem gL_isStep_L_lineLetter : GoodIn wsL_isStep (va_wsS RL 99 yL_lineLetter wsL_lineLetter) := goodIn_app (goodIn_of _ (by decide +kernel)) ggL_isStep_L_lineLetter
set_option maxRecDepth 20000 in
theorem ggL_isStep_L_takeWord : GoodIn wsL_isStep wsL_takeWord := goodIn_ca (goodIn_r _ [147, 35, 1, 148, 149, 150, 10, 151, 67, 12, 68, 69, 70, 71, 43, 44, 23, 72, 73, 74, 75, 13, 14, 15, 16, 17, 18, 76, 77, 78, 79, 59, 80, 81, 82, 83, 84, 85, 86, 87, 88, 89, 90, 91, 92, 93, 94, 95, 96, 97, 98, 99, 100, 101, 102, 103, 104, 105, 106, 107, 108, 109, 110, 111, 112, 25, 26, 27, 113, 56, 57, 58, 114, 115, 116, 117, 24, 55, 118, 119, 120, 121, 122, 340, 341, 342, 343, 344, 345, 346, 347, 348, 349, 350, 351, 352, 353, 354, 355, 356, 357, 358] (by decide +kernel) (by decide +kernel)) (goodIn_sub (fun _ h => List.mem_cons_of_mem _ (List.mem_append_left _ (List.mem_append_right _ h))) (by decide +kernel))
set_option maxRecDepth 20000 in
theorem gL_isStep_L_takeWord : GoodIn wsL_isStep (va_wsS RL 102 yL_takeWord wsL_takeWord) := goodIn_app (goodIn_of _ (by decide +kernel)) ggL_isStep_L_takeWord
set_option maxRecDepth 20000 in
theorem ggL_isStep_X4_occurrences : GoodIn wsL_isStep wsX4_occurrences := goodIn_r _ [155, 156, 157, 158, 159, 10, 160, 12, 161, 162, 96, 97, 98, 99, 100, 101, 102, 103, 104, 105, 106, 107, 108, 109, 110, 16, 111, 18, 59, 112, 25, 26, 27, 113, 56, 57, 58, 163, 164, 165, 166, 118, 119, 120, 121, 122, 167, 168, 169, 170, 171, 172, 92, 93, 94, 173, 174, 175, 14, 15, 17, 176, 177, 178, 179, 180, 181, 182, 183, 184, 185, 77, 78, 79, 80, 81, 82, 83, 186, 187, 188, 189, 190, 191, 192, 193, 194, 195, 196, 197, 198, 199, 200, 201, 202, 203, 204, 205, 206, 207, 208, 209, 210, 211, 212, 213, 214, 215, 216, 217, 218, 219, 220, 221, 222, 223, 224, 225, 226, 227, 228, 229, 230, 231, 232, 233, 234, 235, 236, 237, 238, 239, 13, 340, 341, 342, 343, 344, 345, 346, 347, 348, 349, 350, 351, 352, 353, 354, 355, 356, 359, 360, 361] (by decide +kernel) (by decide +kernel)
set_option maxRecDepth 20000 in
theorem gL_isStep_X4_occurrences : GoodIn wsL_isStep (wsV RL 104 RX4 yX4_occurrences wsX4_occurrences) := goodIn_app (goodIn_of _ (by decide +kernel)) ggL_isStep_X4_occurrences
set_option maxRecDepth 20000 in
theorem ggL_isStep_X4_setRules : GoodIn wsL_isStep wsX4_setRules := goodIn_r _ [243, 67, 12, 84, 85, 86, 87, 88, 89, 90, 91, 92, 93, 94, 95, 96, 97, 98, 99, 100, 101, 102, 103, 104, 105, 106, 107, 108, 109, 110, 16, 111, 18, 59, 112, 25, 26, 27, 113, 56, 57, 58, 244, 245, 246, 247, 163, 164, 165, 166, 118, 119, 120, 121, 122, 340, 341, 342, 343, 344, 345, 346, 357, 358, 347, 348, 349, 350, 351, 352, 353, 354, 355, 356] (by decide +kernel) (by decide +kernel)
set_option maxRecDepth 20000 in
theorem gL_isStep_X4_setRules : GoodIn wsL_isStep (wsV RL 107 RX4 yX4_setRules wsX4_setRules) := goodIn_app (goodIn_of _ (by decide +kernel)) ggL_isStep_X4_setRules
set_option maxRecDepth 20000 in
theorem ggL_isStep_X4_finish : GoodIn wsL_isStep wsX4_finish := goodIn_r _ [251, 67, 12, 161, 84, 85, 86, 87, 88, 89, 90, 91, 92, 93, 94, 95, 96, 97, 98, 99, 100, 101, 102, 103, 104, 105, 106, 107, 108, 109, 110, 16, 111, 18, 59, 112, 25, 26, 27, 113, 56, 57, 58, 167, 168, 169, 170, 171, 172, 173, 174, 175, 14, 15, 17, 176, 177, 178, 179, 180, 181, 182, 183, 184, 185, 77, 78, 79, 80, 81, 82, 83, 186, 187, 188, 189, 190, 191, 192, 193, 194, 195, 196, 197, 198, 199, 200, 201, 202, 203, 204, 205, 206, 207, 208, 209, 210, 211, 212, 213, 214, 215, 216, 217, 218, 219, 220, 221, 222, 223, 224, 225, 226, 227, 228, 229, 230, 231, 232, 233, 234, 235, 236, 237, 238, 239, 340, 341, 342, 343, 344, 345, 346, 347, 348, 349, 350, 351, 352, 353, 354, 357, 358, 355, 356, 359, 360, 361] (by decide +kernel) (by decide +kernel)
set_option maxRecDepth 20000 in
theorem gL_isStep_X4_finish : GoodIn wsL_isStep (wsV RL 111 RX4 yX4_finish wsX4_finish) := goodIn_app (goodIn_of _ (by decide +kernel)) ggL_isStep_X4_finish
set_option maxRecDepth 20000 in
theorem ggL_isStep_X4_isOver : GoodIn wsL_isStep wsX4_isOver := goodIn_r _ [255, 12, 256, 195, 196, 98, 197, 101, 105, 198, 199, 200, 16, 201, 18, 202, 203, 204, 205, 100, 206, 207, 93, 208, 209, 14, 15, 17, 340, 341, 342, 343, 344, 345, 346, 347, 348, 349, 350, 351, 352, 353, 354, 355, 356] (by decide +kernel) (by decide +kernel)
set_option maxRecDepth 20000 in
theorem gL_isStep_X4_isOver : GoodIn wsL_isStep (wsV RL 114 RX4 yX4_isOver wsX4_isOver) := goodIn_app (goodIn_of _ (by decide +kernel)) ggL_isStep_X4_isOver
set_option maxRecDepth 20000 in
theorem ggL_isStep_X4_wordLength : GoodIn wsL_isStep wsX4_wordLength := goodIn_r _ [260, 12, 13, 14, 15, 16, 17, 18, 340, 341, 342, 343, 344, 345, 346, 347, 348, 349, 350, 351, 352, 353, 354, 355, 356] (by decide +kernel) (by decide +kernel)
set_option maxRecDepth 20000 in
theorem gL_isStep_X4_wordLength : GoodIn wsL_isStep (wsV RL 118 RX4 yX4_wordLength wsX4_wordLength) := goodIn_app (goodIn_of _ (by decide +kernel)) ggL_isStep_X4_wordLength
set_option maxRecDepth 20000 in
theorem ggL_isStep_X4_foundCount : GoodIn wsL_isStep wsX4_foundCount := goodIn_r _ [264, 12, 13, 14, 15, 16, 17, 18, 340, 341, 342, 343, 344, 345, 346, 347, 348, 349, 350, 351, 352, 353, 354, 355, 356] (by decide +kernel) (by decide +kernel)
set_option maxRecDepth 20000 in
theorem gL_isStep_X4_foundCount : GoodIn wsL_isStep (wsV RL 121 RX4 yX4_foundCount wsX4_foundCount) := goodIn_app (goodIn_of _ (by decide +kernel)) ggL_isStep_X4_foundCount
set_option maxRecDepth 20000 in
theorem ggL_isStep_X4_rewind : GoodIn wsL_isStep wsX4_rewind := goodIn_r _ [268, 67, 12, 84, 85, 86, 87, 88, 89, 90, 91, 92, 93, 94, 95, 96, 97, 98, 99, 100, 101, 102, 103, 104, 105, 106, 107, 108, 109, 110, 16, 111, 18, 59, 112, 25, 26, 27, 113, 56, 57, 58, 118, 119, 120, 121, 122, 340, 341, 342, 343, 344, 345, 346, 347, 348, 349, 350, 351, 352, 353, 354, 357, 358, 355, 356] (by decide +kernel) (by decide +kernel)
set_option maxRecDepth 20000 in
theorem gL_isStep_X4_rewind : GoodIn wsL_isStep (wsV RL 124 RX4 yX4_rewind wsX4_rewind) := goodIn_app (goodIn_of _ (by decide +kernel)) ggL_isStep_X4_rewind
set_option maxRecDepth 20000 in
theorem ggL_isStep_L_setLetter : GoodIn wsL_isStep wsL_setLetter := goodIn_ca (goodIn_ca (goodIn_r _ [271, 134, 34, 1, 36, 272, 273, 274, 10, 275, 12, 67, 139, 140, 141, 142, 143, 144, 81, 82, 16, 83, 18, 276, 277, 278, 41, 42, 84, 85, 86, 87, 88, 89, 90, 91, 92, 93, 94, 95, 96, 97, 98, 99, 100, 101, 102, 103, 104, 105, 106, 107, 108, 109, 110, 111, 59, 112, 25, 26, 27, 113, 56, 57, 58, 76, 77, 78, 79, 80, 279, 280, 281, 282, 118, 119, 120, 121, 122, 340, 341, 342, 343, 344, 345, 346, 347, 348, 349, 350, 351, 352, 353, 354, 355, 356, 357, 358] (by decide +kernel) (by decide +kernel)) (goodIn_sub (fun _ h => List.mem_cons_of_mem _ (List.mem_append_right _ h)) (by decide +kernel))) (goodIn_sub (fun _ h => List.mem_cons_of_mem _ (List.mem_append_left _ (List.mem_append_left _ (List.mem_append_right _ h)))) (by decide +kernel))
set_option maxRecDepth 20000 in
theorem gL_isStep_L_setLetter : GoodIn wsL_isStep (va_wsS RL 127 yL_setLetter wsL_setLetter) := goodIn_app (goodIn_of _ (by decide +kernel)) ggL_isStep_L_setLetter
set_option maxRecDepth 20000 in
theorem ggL_isStep_L_save : GoodIn wsL_isStep wsL_save := goodIn_ca (goodIn_r _ [285, 134, 1, 286, 287, 288, 10, 289, 290, 12, 291, 292, 293, 294, 142, 143, 162, 96, 97, 98, 99, 100, 101, 102, 103, 104, 105, 106, 107, 108, 109, 110, 16, 111, 18, 59, 112, 25, 26, 27, 113, 56, 57, 58, 13, 14, 15, 17, 340, 341, 342, 343, 344, 345, 346, 347, 348, 349, 350, 351, 352, 353, 354, 355, 356] (by decide +kernel) (by decide +kernel)) (goodIn_sub (fun _ h => List.mem_cons_of_mem _ (List.mem_append_right _ h)) (by decide +kernel))
set_option maxRecDepth 20000 in
theorem gL_isStep_L_save : GoodIn wsL_isStep (va_wsS RL 130 yL_save wsL_save) := goodIn_app (goodIn_of _ (by decide +kernel)) ggL_isStep_L_save
set_option maxRecDepth 20000 in
theorem ggL_isStep_L_load : GoodIn wsL_isStep wsL_load := goodIn_ca (goodIn_ca (goodIn_r _ [297, 134, 35, 1, 36, 298, 299, 300, 10, 301, 43, 44, 291, 67, 12, 290, 292, 293, 294, 142, 143, 84, 85, 86, 87, 88, 89, 90, 91, 92, 93, 94, 95, 96, 97, 98, 99, 100, 101, 102, 103, 104, 105, 106, 107, 108, 109, 110, 16, 111, 18, 59, 112, 25, 26, 27, 113, 56, 57, 58, 162, 13, 14, 15, 17, 340, 341, 342, 343, 344, 345, 346, 347, 348, 349, 350, 351, 352, 353, 354, 357, 358, 355, 356] (by decide +kernel) (by decide +kernel)) (goodIn_sub (fun _ h => List.mem_cons_of_mem _ (List.mem_append_left _ (List.mem_append_right _ h))) (by decide +kernel))) (goodIn_sub (fun _ h => List.mem_cons_of_mem _ (List.mem_append_right _ h)) (by decide +kernel))
set_option maxRecDepth 20000 in
theorem gL_isStep_L_load : GoodIn wsL_isStep (va_wsS RL 133 yL_load wsL_load) := goodIn_app (goodIn_of _ (by decide +kernel)) ggL_isStep_L_load
set_option maxRecDepth 20000 in
theorem ggL_isStep_L_undo : GoodIn wsL_isStep wsL_undo := goodIn_ca (goodIn_r _ [304, 35, 1, 305, 306, 307, 10, 308, 43, 44, 67, 12, 309, 310, 311, 87, 312, 90, 313, 314, 315, 316, 89, 95, 96, 97, 98, 99, 100, 101, 102, 103, 104, 105, 106, 107, 108, 109, 110, 16, 111, 18, 59, 112, 25, 26, 27, 113, 56, 57, 58, 340, 341, 342, 343, 344, 345, 346, 357, 358, 347, 348, 349, 350, 351, 352, 353, 354, 355, 356] (by decide +kernel) (by decide +kernel)) (goodIn_sub (fun _ h => List.mem_cons_of_mem _ (List.mem_append_left _ (List.mem_append_right _ h))) (by decide +kernel))
set_option maxRecDepth 20000 in
theorem gL_isStep_L_undo : GoodIn wsL_isStep (va_wsS RL 136 yL_undo wsL_undo) := goodIn_app (goodIn_of _ (by decide +kernel)) ggL_isStep_L_undo
set_option maxRecDepth 20000 in
theorem ggL_isStep_L_difference : GoodIn wsL_isStep wsL_difference := goodIn_ca (goodIn_ca (goodIn_r _ [319, 134, 35, 1, 36, 320, 321, 322, 10, 323, 142, 143, 43, 44, 12, 324, 203, 204, 98, 205, 100, 101, 206, 207, 93, 208, 209, 14, 15, 16, 17, 18, 325, 199, 200, 201, 326, 215, 216, 217, 218, 77, 78, 79, 59, 80, 81, 82, 83, 340, 341, 342, 343, 344, 345, 346, 347, 348, 349, 350, 351, 352, 353, 354, 355, 356] (by decide +kernel) (by decide +kernel)) (goodIn_sub (fun _ h => List.mem_cons_of_mem _ (List.mem_append_right _ h)) (by decide +kernel))) (goodIn_sub (fun _ h => List.mem_cons_of_mem _ (List.mem_append_left _ (List.mem_append_right _ h))) (by decide +kernel))
set_option maxRecDepth 20000 in
theorem gL_isStep_L_difference : GoodIn wsL_isStep (va_wsS RL 138 yL_difference wsL_difference) := goodIn_app (goodIn_of _ (by decide +kernel)) ggL_isStep_L_difference
set_option maxRecDepth 20000 in
theorem ggL_isStep_L_look : GoodIn wsL_isStep wsL_look := goodIn_ca (goodIn_r _ [329, 35, 1, 330, 331, 332, 10, 333, 43, 44, 12, 67, 161, 256, 195, 196, 98, 197, 101, 105, 198, 199, 200, 16, 201, 18, 202, 203, 204, 205, 100, 206, 207, 93, 208, 209, 14, 15, 17, 84, 85, 86, 87, 88, 89, 90, 91, 92, 94, 95, 96, 97, 99, 102, 103, 104, 106, 107, 108, 109, 110, 111, 59, 112, 25, 26, 27, 113, 56, 57, 58, 167, 168, 169, 170, 171, 172, 173, 174, 175, 176, 177, 178, 179, 180, 181, 182, 183, 184, 185, 77, 78, 79, 80, 81, 82, 83, 186, 187, 188, 189, 334, 211, 212, 213, 214, 215, 216, 217, 218, 219, 220, 221, 222, 223, 224, 225, 226, 227, 228, 229, 230, 231, 232, 233, 234, 235, 236, 237, 238, 239, 340, 341, 342, 343, 344, 345, 346, 347, 348, 349, 350, 351, 352, 353, 354, 355, 356, 357, 358, 359, 360, 361] (by decide +kernel) (by decide +kernel)) (goodIn_sub (fun _ h => List.mem_cons_of_mem _ (List.mem_append_left _ (List.mem_append_right _ h))) (by decide +kernel))
set_option maxRecDepth 20000 in
theorem gL_isStep_L_look : GoodIn wsL_isStep (va_wsS RL 141 yL_look wsL_look) := goodIn_app (goodIn_of _ (by decide +kernel)) ggL_isStep_L_look
set_option maxRecDepth 20000 in
theorem ggL_isStep_X4_period : GoodIn wsL_isStep wsX4_period := goodIn_r _ [338, 161, 12, 167, 168, 169, 170, 171, 172, 92, 93, 94, 173, 174, 175, 14, 15, 16, 17, 18, 176, 177, 178, 179, 180, 181, 182, 183, 184, 185, 77, 78, 79, 59, 80, 81, 82, 83, 186, 187, 188, 189, 339, 224, 225, 226, 340, 341, 342, 343, 344, 345, 346, 347, 348, 349, 350, 351, 352, 353, 354, 359, 360, 361, 355, 356] (by decide +kernel) (by decide +kernel)
set_option maxRecDepth 20000 in
theorem gL_isStep_X4_period : GoodIn wsL_isStep (wsV RL 143 RX4 yX4_period wsX4_period) := goodIn_app (goodIn_of _ (by decide +kernel)) ggL_isStep_X4_period
