theorem dX10_find_329 : decode cX10_find 329 = .ok (.invokevirtual 391, 3) := by decide +kernel
theorem dX10_find_332 : decode cX10_find 332 = .ok (.iload 8, 2) := by decide +kernel
theorem dX10_find_334 : decode cX10_find 334 = .ok (.if_icmp .le 12, 3) := by decide +kernel
theorem dX10_find_337 : decode cX10_find 337 = .ok (.aload_n 0, 1) := by decide +kernel
theorem dX10_find_338 : decode cX10_find 338 = .ok (.iload 10, 2) := by decide +kernel
theorem dX10_find_340 : decode cX10_find 340 = .ok (.invokevirtual 391, 3) := by decide +kernel
theorem dX10_find_343 : decode cX10_find 343 = .ok (.goto 5, 3) := by decide +kernel
theorem dX10_find_346 : decode cX10_find 346 = .ok (.iload 8, 2) := by decide +kernel
theorem dX10_find_348 : decode cX10_find 348 = .ok (.istore 8, 2) := by decide +kernel
theorem dX10_find_350 : decode cX10_find 350 = .ok (.aload_n 0, 1) := by decide +kernel
theorem dX10_find_351 : decode cX10_find 351 = .ok (.dup, 1) := by decide +kernel
theorem dX10_find_352 : decode cX10_find 352 = .ok (.getfield 385, 3) := by decide +kernel
theorem dX10_find_355 : decode cX10_find 355 = .ok (.iload 9, 2) := by decide +kernel
theorem dX10_find_357 : decode cX10_find 357 = .ok (.iconst 3, 1) := by decide +kernel
theorem dX10_find_358 : decode cX10_find 358 = .ok (.if_icmp .ge 19, 3) := by decide +kernel
theorem dX10_find_361 : decode cX10_find 361 = .ok (.iload 10, 2) := by decide +kernel
theorem dX10_find_363 : decode cX10_find 363 = .ok (.iconst (-1), 1) := by decide +kernel
theorem dX10_find_364 : decode cX10_find 364 = .ok (.if_icmp .eq 13, 3) := by decide +kernel
theorem dX10_find_367 : decode cX10_find 367 = .ok (.aload_n 0, 1) := by decide +kernel
theorem dX10_find_368 : decode cX10_find 368 = .ok (.getfield 76, 3) := by decide +kernel
theorem dX10_find_371 : decode cX10_find 371 = .ok (.iload 10, 2) := by decide +kernel
theorem dX10_find_373 : decode cX10_find 373 = .ok (.iaload, 1) := by decide +kernel
theorem dX10_find_374 : decode cX10_find 374 = .ok (.goto 4, 3) := by decide +kernel
theorem dX10_find_377 : decode cX10_find 377 = .ok (.iconst 0, 1) := by decide +kernel
theorem dX10_find_378 : decode cX10_find 378 = .ok (.iadd, 1) := by decide +kernel
theorem dX10_find_379 : decode cX10_find 379 = .ok (.putfield 385, 3) := by decide +kernel
theorem dX10_find_382 : decode cX10_find 382 = .ok (.iload 10, 2) := by decide +kernel
theorem dX10_find_384 : decode cX10_find 384 = .ok (.iconst (-1), 1) := by decide +kernel
theorem dX10_find_385 : decode cX10_find 385 = .ok (.if_icmp .ne 7, 3) := by decide +kernel
theorem dX10_find_388 : decode cX10_find 388 = .ok (.iconst 0, 1) := by decide +kernel
theorem dX10_find_389 : decode cX10_find 389 = .ok (.goto 10, 3) := by decide +kernel
theorem dX10_find_392 : decode cX10_find 392 = .ok (.aload_n 0, 1) := by decide +kernel
theorem dX10_find_393 : decode cX10_find 393 = .ok (.getfield 79, 3) := by decide +kernel
theorem dX10_find_396 : decode cX10_find 396 = .ok (.iload 10, 2) := by decide +kernel
theorem dX10_find_398 : decode cX10_find 398 = .ok (.iaload, 1) := by decide +kernel
theorem dX10_find_399 : decode cX10_find 399 = .ok (.istore 11, 2) := by decide +kernel
theorem dX10_find_401 : decode cX10_find 401 = .ok (.aload_n 0, 1) := by decide +kernel
theorem dX10_find_402 : decode cX10_find 402 = .ok (.iload 11, 2) := by decide +kernel
theorem dX10_find_404 : decode cX10_find 404 = .ok (.aload_n 0, 1) := by decide +kernel
theorem dX10_find_405 : decode cX10_find 405 = .ok (.getfield 388, 3) := by decide +kernel
theorem dX10_find_408 : decode cX10_find 408 = .ok (.if_icmp .le 8, 3) := by decide +kernel
theorem dX10_find_411 : decode cX10_find 411 = .ok (.iload 11, 2) := by decide +kernel
theorem dX10_find_413 : decode cX10_find 413 = .ok (.goto 7, 3) := by decide +kernel
theorem dX10_find_416 : decode cX10_find 416 = .ok (.aload_n 0, 1) := by decide +kernel
theorem dX10_find_417 : decode cX10_find 417 = .ok (.getfield 388, 3) := by decide +kernel
theorem dX10_find_420 : decode cX10_find 420 = .ok (.putfield 388, 3) := by decide +kernel
theorem dX10_find_423 : decode cX10_find 423 = .ok (.iinc 9 1, 3) := by decide +kernel
theorem dX10_find_426 : decode cX10_find 426 = .ok (.goto (-115), 3) := by decide +kernel
theorem dX10_find_429 : decode cX10_find 429 = .ok (.aload_n 0, 1) := by decide +kernel
theorem dX10_find_430 : decode cX10_find 430 = .ok (.getfield 379, 3) := by decide +kernel
theorem dX10_find_433 : decode cX10_find 433 = .ok (.iconst (-1), 1) := by decide +kernel
theorem dX10_find_434 : decode cX10_find 434 = .ok (.if_icmp .ne 7, 3) := by decide +kernel
theorem dX10_find_437 : decode cX10_find 437 = .ok (.iconst 0, 1) := by decide +kernel
theorem dX10_find_438 : decode cX10_find 438 = .ok (.goto 12, 3) := by decide +kernel
theorem dX10_find_441 : decode cX10_find 441 = .ok (.aload_n 0, 1) := by decide +kernel
theorem dX10_find_442 : decode cX10_find 442 = .ok (.getfield 85, 3) := by decide +kernel
theorem dX10_find_445 : decode cX10_find 445 = .ok (.aload_n 0, 1) := by decide +kernel
theorem dX10_find_446 : decode cX10_find 446 = .ok (.getfield 379, 3) := by decide +kernel
theorem dX10_find_449 : decode cX10_find 449 = .ok (.iaload, 1) := by decide +kernel
theorem dX10_find_450 : decode cX10_find 450 = .ok (.istore 9, 2) := by decide +kernel
theorem dX10_find_452 : decode cX10_find 452 = .ok (.aload_n 0, 1) := by decide +kernel
theorem dX10_find_453 : decode cX10_find 453 = .ok (.aload_n 0, 1) := by decide +kernel
theorem dX10_find_454 : decode cX10_find 454 = .ok (.getfield 379, 3) := by decide +kernel
theorem dX10_find_457 : decode cX10_find 457 = .ok (.iconst (-1), 1) := by decide +kernel
theorem dX10_find_458 : decode cX10_find 458 = .ok (.if_icmp .eq 10, 3) := by decide +kernel
theorem dX10_find_461 : decode cX10_find 461 = .ok (.iload 9, 2) := by decide +kernel
theorem dX10_find_463 : decode cX10_find 463 = .ok (.iload 8, 2) := by decide +kernel
theorem dX10_find_465 : decode cX10_find 465 = .ok (.if_icmp .ge 7, 3) := by decide +kernel
theorem dX10_find_468 : decode cX10_find 468 = .ok (.iconst 0, 1) := by decide +kernel
theorem dX10_find_469 : decode cX10_find 469 = .ok (.goto 8, 3) := by decide +kernel
theorem dX10_find_472 : decode cX10_find 472 = .ok (.iload 9, 2) := by decide +kernel
theorem dX10_find_474 : decode cX10_find 474 = .ok (.iload 8, 2) := by decide +kernel
theorem dX10_find_476 : decode cX10_find 476 = .ok (.isub, 1) := by decide +kernel
theorem dX10_find_477 : decode cX10_find 477 = .ok (.putfield 394, 3) := by decide +kernel
theorem dX10_find_480 : decode cX10_find 480 = .ok (.return_, 1) := by decide +kernel
theorem dX10_quickIn_0 : decode cX10_quickIn 0 = .ok (.aload_n 0, 1) := by decide +kernel
theorem dX10_quickIn_1 : decode cX10_quickIn 1 = .ok (.iload_n 1, 1) := by decide +kernel
theorem dX10_quickIn_2 : decode cX10_quickIn 2 = .ok (.iload_n 2, 1) := by decide +kernel
theorem dX10_quickIn_3 : decode cX10_quickIn 3 = .ok (.invokevirtual 397, 3) := by decide +kernel
theorem dX10_quickIn_6 : decode cX10_quickIn 6 = .ok (.aload_n 0, 1) := by decide +kernel
theorem dX10_quickIn_7 : decode cX10_quickIn 7 = .ok (.getfield 379, 3) := by decide +kernel
theorem dX10_quickIn_10 : decode cX10_quickIn 10 = .ok (.iconst (-1), 1) := by decide +kernel
theorem dX10_quickIn_11 : decode cX10_quickIn 11 = .ok (.if_icmp .ne 7, 3) := by decide +kernel
theorem dX10_quickIn_14 : decode cX10_quickIn 14 = .ok (.iconst 0, 1) := by decide +kernel
theorem dX10_quickIn_15 : decode cX10_quickIn 15 = .ok (.goto 12, 3) := by decide +kernel
theorem dX10_quickIn_18 : decode cX10_quickIn 18 = .ok (.aload_n 0, 1) := by decide +kernel
theorem dX10_quickIn_19 : decode cX10_quickIn 19 = .ok (.getfield 85, 3) := by decide +kernel
theorem dX10_quickIn_22 : decode cX10_quickIn 22 = .ok (.aload_n 0, 1) := by decide +kernel
theorem dX10_quickIn_23 : decode cX10_quickIn 23 = .ok (.getfield 379, 3) := by decide +kernel
theorem dX10_quickIn_26 : decode cX10_quickIn 26 = .ok (.iaload, 1) := by decide +kernel
theorem dX10_quickIn_27 : decode cX10_quickIn 27 = .ok (.istore_n 3, 1) := by decide +kernel
theorem dX10_quickIn_28 : decode cX10_quickIn 28 = .ok (.aload_n 0, 1) := by decide +kernel
theorem dX10_quickIn_29 : decode cX10_quickIn 29 = .ok (.getfield 376, 3) := by decide +kernel
theorem dX10_quickIn_32 : decode cX10_quickIn 32 = .ok (.ifCond .ne 8, 3) := by decide +kernel
theorem dX10_quickIn_35 : decode cX10_quickIn 35 = .ok (.bipush 100, 2) := by decide +kernel
theorem dX10_quickIn_37 : decode cX10_quickIn 37 = .ok (.goto 58, 3) := by decide +kernel
theorem dX10_quickIn_40 : decode cX10_quickIn 40 = .ok (.aload_n 0, 1) := by decide +kernel
theorem dX10_quickIn_41 : decode cX10_quickIn 41 = .ok (.getfield 376, 3) := by decide +kernel
theorem dX10_quickIn_44 : decode cX10_quickIn 44 = .ok (.iconst 1, 1) := by decide +kernel
theorem dX10_quickIn_45 : decode cX10_quickIn 45 = .ok (.if_icmp .ne 9, 3) := by decide +kernel
theorem dX10_quickIn_48 : decode cX10_quickIn 48 = .ok (.sipush 180, 3) := by decide +kernel
theorem dX10_quickIn_51 : decode cX10_quickIn 51 = .ok (.goto 44, 3) := by decide +kernel
theorem dX10_quickIn_54 : decode cX10_quickIn 54 = .ok (.aload_n 0, 1) := by decide +kernel
theorem dX10_quickIn_55 : decode cX10_quickIn 55 = .ok (.getfield 376, 3) := by decide +kernel
theorem dX10_quickIn_58 : decode cX10_quickIn 58 = .ok (.iconst 2, 1) := by decide +kernel
theorem dX10_quickIn_59 : decode cX10_quickIn 59 = .ok (.if_icmp .ne 15, 3) := by decide +kernel
theorem dX10_quickIn_62 : decode cX10_quickIn 62 = .ok (.bipush 100, 2) := by decide +kernel
theorem dX10_quickIn_64 : decode cX10_quickIn 64 = .ok (.iconst 2, 1) := by decide +kernel
theorem dX10_quickIn_65 : decode cX10_quickIn 65 = .ok (.aload_n 0, 1) := by decide +kernel
theorem dX10_quickIn_66 : decode cX10_quickIn 66 = .ok (.getfield 394, 3) := by decide +kernel
theorem dX10_quickIn_69 : decode cX10_quickIn 69 = .ok (.imul, 1) := by decide +kernel
theorem dX10_quickIn_70 : decode cX10_quickIn 70 = .ok (.iadd, 1) := by decide +kernel
theorem dX10_quickIn_71 : decode cX10_quickIn 71 = .ok (.goto 24, 3) := by decide +kernel
theorem dX10_quickIn_74 : decode cX10_quickIn 74 = .ok (.aload_n 0, 1) := by decide +kernel
theorem dX10_quickIn_75 : decode cX10_quickIn 75 = .ok (.getfield 376, 3) := by decide +kernel
theorem dX10_quickIn_78 : decode cX10_quickIn 78 = .ok (.iconst 3, 1) := by decide +kernel
theorem dX10_quickIn_79 : decode cX10_quickIn 79 = .ok (.if_icmp .ne 14, 3) := by decide +kernel
theorem dX10_quickIn_82 : decode cX10_quickIn 82 = .ok (.sipush 150, 3) := by decide +kernel
theorem dX10_quickIn_85 : decode cX10_quickIn 85 = .ok (.aload_n 0, 1) := by decide +kernel
theorem dX10_quickIn_86 : decode cX10_quickIn 86 = .ok (.getfield 394, 3) := by decide +kernel
theorem dX10_quickIn_89 : decode cX10_quickIn 89 = .ok (.iadd, 1) := by decide +kernel
theorem dX10_quickIn_90 : decode cX10_quickIn 90 = .ok (.goto 5, 3) := by decide +kernel
theorem dX10_quickIn_93 : decode cX10_quickIn 93 = .ok (.bipush 40, 2) := by decide +kernel
theorem dX10_quickIn_95 : decode cX10_quickIn 95 = .ok (.istore 4, 2) := by decide +kernel
theorem dX10_quickIn_97 : decode cX10_quickIn 97 = .ok (.aload_n 0, 1) := by decide +kernel
theorem dX10_quickIn_98 : decode cX10_quickIn 98 = .ok (.getfield 13, 3) := by decide +kernel
theorem dX10_quickIn_101 : decode cX10_quickIn 101 = .ok (.iconst 2, 1) := by decide +kernel
theorem dX10_quickIn_102 : decode cX10_quickIn 102 = .ok (.iaload, 1) := by decide +kernel
theorem dX10_quickIn_103 : decode cX10_quickIn 103 = .ok (.iconst (-1), 1) := by decide +kernel
theorem dX10_quickIn_104 : decode cX10_quickIn 104 = .ok (.if_icmp .ne 6, 3) := by decide +kernel
theorem dX10_quickIn_107 : decode cX10_quickIn 107 = .ok (.iload 4, 2) := by decide +kernel
theorem dX10_quickIn_109 : decode cX10_quickIn 109 = .ok (.ireturn, 1) := by decide +kernel
theorem dX10_quickIn_110 : decode cX10_quickIn 110 = .ok (.aload_n 0, 1) := by decide +kernel
theorem dX10_quickIn_111 : decode cX10_quickIn 111 = .ok (.sipush 430, 3) := by decide +kernel
theorem dX10_quickIn_114 : decode cX10_quickIn 114 = .ok (.sipush 900, 3) := by decide +kernel
theorem dX10_quickIn_117 : decode cX10_quickIn 117 = .ok (.aload_n 0, 1) := by decide +kernel
theorem dX10_quickIn_118 : decode cX10_quickIn 118 = .ok (.getfield 13, 3) := by decide +kernel
theorem dX10_quickIn_121 : decode cX10_quickIn 121 = .ok (.iconst 2, 1) := by decide +kernel
theorem dX10_quickIn_122 : decode cX10_quickIn 122 = .ok (.iaload, 1) := by decide +kernel
theorem dX10_quickIn_123 : decode cX10_quickIn 123 = .ok (.imul, 1) := by decide +kernel
theorem dX10_quickIn_124 : decode cX10_quickIn 124 = .ok (.iadd, 1) := by decide +kernel
theorem dX10_quickIn_125 : decode cX10_quickIn 125 = .ok (.putfield 334, 3) := by decide +kernel
theorem dX10_quickIn_128 : decode cX10_quickIn 128 = .ok (.aload_n 0, 1) := by decide +kernel
theorem dX10_quickIn_129 : decode cX10_quickIn 129 = .ok (.getfield 67, 3) := by decide +kernel
theorem dX10_quickIn_132 : decode cX10_quickIn 132 = .ok (.iconst 1, 1) := by decide +kernel
theorem dX10_quickIn_133 : decode cX10_quickIn 133 = .ok (.aload_n 0, 1) := by decide +kernel
theorem dX10_quickIn_134 : decode cX10_quickIn 134 = .ok (.getfield 376, 3) := by decide +kernel
theorem dX10_quickIn_137 : decode cX10_quickIn 137 = .ok (.i2l, 1) := by decide +kernel
theorem dX10_quickIn_138 : decode cX10_quickIn 138 = .ok (.lastore, 1) := by decide +kernel
theorem dX10_quickIn_139 : decode cX10_quickIn 139 = .ok (.aload_n 0, 1) := by decide +kernel
theorem dX10_quickIn_140 : decode cX10_quickIn 140 = .ok (.getfield 67, 3) := by decide +kernel
theorem dX10_quickIn_143 : decode cX10_quickIn 143 = .ok (.iconst 2, 1) := by decide +kernel
theorem dX10_quickIn_144 : decode cX10_quickIn 144 = .ok (.aload_n 0, 1) := by decide +kernel
theorem dX10_quickIn_145 : decode cX10_quickIn 145 = .ok (.getfield 394, 3) := by decide +kernel
theorem dX10_quickIn_148 : decode cX10_quickIn 148 = .ok (.i2l, 1) := by decide +kernel
theorem dX10_quickIn_149 : decode cX10_quickIn 149 = .ok (.lastore, 1) := by decide +kernel
theorem dX10_quickIn_150 : decode cX10_quickIn 150 = .ok (.aload_n 0, 1) := by decide +kernel
theorem dX10_quickIn_151 : decode cX10_quickIn 151 = .ok (.getfield 67, 3) := by decide +kernel
theorem dX10_quickIn_154 : decode cX10_quickIn 154 = .ok (.iconst 3, 1) := by decide +kernel
theorem dX10_quickIn_155 : decode cX10_quickIn 155 = .ok (.iload_n 3, 1) := by decide +kernel
theorem dX10_quickIn_156 : decode cX10_quickIn 156 = .ok (.i2l, 1) := by decide +kernel
theorem dX10_quickIn_157 : decode cX10_quickIn 157 = .ok (.lastore, 1) := by decide +kernel
theorem dX10_quickIn_158 : decode cX10_quickIn 158 = .ok (.aload_n 0, 1) := by decide +kernel
theorem dX10_quickIn_159 : decode cX10_quickIn 159 = .ok (.getfield 67, 3) := by decide +kernel
theorem dX10_quickIn_162 : decode cX10_quickIn 162 = .ok (.iconst 4, 1) := by decide +kernel
theorem dX10_quickIn_163 : decode cX10_quickIn 163 = .ok (.aload_n 0, 1) := by decide +kernel
theorem dX10_quickIn_164 : decode cX10_quickIn 164 = .ok (.getfield 385, 3) := by decide +kernel
theorem dX10_quickIn_167 : decode cX10_quickIn 167 = .ok (.i2l, 1) := by decide +kernel
theorem dX10_quickIn_168 : decode cX10_quickIn 168 = .ok (.lastore, 1) := by decide +kernel
theorem dX10_quickIn_169 : decode cX10_quickIn 169 = .ok (.aload_n 0, 1) := by decide +kernel
theorem dX10_quickIn_170 : decode cX10_quickIn 170 = .ok (.getfield 67, 3) := by decide +kernel
theorem dX10_quickIn_173 : decode cX10_quickIn 173 = .ok (.iconst 5, 1) := by decide +kernel
theorem dX10_quickIn_174 : decode cX10_quickIn 174 = .ok (.aload_n 0, 1) := by decide +kernel
theorem dX10_quickIn_175 : decode cX10_quickIn 175 = .ok (.getfield 388, 3) := by decide +kernel
theorem dX10_quickIn_178 : decode cX10_quickIn 178 = .ok (.i2l, 1) := by decide +kernel
theorem dX10_quickIn_179 : decode cX10_quickIn 179 = .ok (.lastore, 1) := by decide +kernel
theorem dX10_quickIn_180 : decode cX10_quickIn 180 = .ok (.aload_n 0, 1) := by decide +kernel
theorem dX10_quickIn_181 : decode cX10_quickIn 181 = .ok (.getfield 67, 3) := by decide +kernel
theorem dX10_quickIn_184 : decode cX10_quickIn 184 = .ok (.bipush 6, 2) := by decide +kernel
theorem dX10_quickIn_186 : decode cX10_quickIn 186 = .ok (.iload_n 1, 1) := by decide +kernel
theorem dX10_quickIn_187 : decode cX10_quickIn 187 = .ok (.bipush 10, 2) := by decide +kernel
theorem dX10_quickIn_189 : decode cX10_quickIn 189 = .ok (.irem, 1) := by decide +kernel
theorem dX10_quickIn_190 : decode cX10_quickIn 190 = .ok (.i2l, 1) := by decide +kernel
theorem dX10_quickIn_191 : decode cX10_quickIn 191 = .ok (.lastore, 1) := by decide +kernel
theorem dX10_quickIn_192 : decode cX10_quickIn 192 = .ok (.aload_n 0, 1) := by decide +kernel
theorem dX10_quickIn_193 : decode cX10_quickIn 193 = .ok (.getfield 67, 3) := by decide +kernel
theorem dX10_quickIn_196 : decode cX10_quickIn 196 = .ok (.bipush 7, 2) := by decide +kernel
theorem dX10_quickIn_198 : decode cX10_quickIn 198 = .ok (.iload_n 1, 1) := by decide +kernel
theorem dX10_quickIn_199 : decode cX10_quickIn 199 = .ok (.bipush 10, 2) := by decide +kernel
theorem dX10_quickIn_201 : decode cX10_quickIn 201 = .ok (.idiv, 1) := by decide +kernel
theorem dX10_quickIn_202 : decode cX10_quickIn 202 = .ok (.i2l, 1) := by decide +kernel
theorem dX10_quickIn_203 : decode cX10_quickIn 203 = .ok (.lastore, 1) := by decide +kernel
theorem dX10_quickIn_204 : decode cX10_quickIn 204 = .ok (.aload_n 0, 1) := by decide +kernel
theorem dX10_quickIn_205 : decode cX10_quickIn 205 = .ok (.getfield 67, 3) := by decide +kernel
theorem dX10_quickIn_208 : decode cX10_quickIn 208 = .ok (.bipush 8, 2) := by decide +kernel
theorem dX10_quickIn_210 : decode cX10_quickIn 210 = .ok (.iload_n 2, 1) := by decide +kernel
theorem dX10_quickIn_211 : decode cX10_quickIn 211 = .ok (.i2l, 1) := by decide +kernel
theorem dX10_quickIn_212 : decode cX10_quickIn 212 = .ok (.lastore, 1) := by decide +kernel
theorem dX10_quickIn_213 : decode cX10_quickIn 213 = .ok (.aload_n 0, 1) := by decide +kernel
theorem dX10_quickIn_214 : decode cX10_quickIn 214 = .ok (.getfield 67, 3) := by decide +kernel
theorem dX10_quickIn_217 : decode cX10_quickIn 217 = .ok (.bipush 9, 2) := by decide +kernel
theorem dX10_quickIn_219 : decode cX10_quickIn 219 = .ok (.aload_n 0, 1) := by decide +kernel
theorem dX10_quickIn_220 : decode cX10_quickIn 220 = .ok (.getfield 382, 3) := by decide +kernel
theorem dX10_quickIn_223 : decode cX10_quickIn 223 = .ok (.i2l, 1) := by decide +kernel
theorem dX10_quickIn_224 : decode cX10_quickIn 224 = .ok (.lastore, 1) := by decide +kernel
theorem dX10_quickIn_225 : decode cX10_quickIn 225 = .ok (.iconst 0, 1) := by decide +kernel
theorem dX10_quickIn_226 : decode cX10_quickIn 226 = .ok (.istore 5, 2) := by decide +kernel
theorem dX10_quickIn_228 : decode cX10_quickIn 228 = .ok (.lconst 0, 1) := by decide +kernel
theorem dX10_quickIn_229 : decode cX10_quickIn 229 = .ok (.lstore 6, 2) := by decide +kernel
theorem dX10_quickIn_231 : decode cX10_quickIn 231 = .ok (.iconst 0, 1) := by decide +kernel
theorem dX10_quickIn_232 : decode cX10_quickIn 232 = .ok (.istore 8, 2) := by decide +kernel
theorem dX10_quickIn_234 : decode cX10_quickIn 234 = .ok (.iload 8, 2) := by decide +kernel
theorem dX10_quickIn_236 : decode cX10_quickIn 236 = .ok (.aload_n 0, 1) := by decide +kernel
theorem dX10_quickIn_237 : decode cX10_quickIn 237 = .ok (.getfield 13, 3) := by decide +kernel
theorem dX10_quickIn_240 : decode cX10_quickIn 240 = .ok (.aload_n 0, 1) := by decide +kernel
theorem dX10_quickIn_241 : decode cX10_quickIn 241 = .ok (.getfield 334, 3) := by decide +kernel
theorem dX10_quickIn_244 : decode cX10_quickIn 244 = .ok (.iconst 1, 1) := by decide +kernel
theorem dX10_quickIn_245 : decode cX10_quickIn 245 = .ok (.iadd, 1) := by decide +kernel
theorem dX10_quickIn_246 : decode cX10_quickIn 246 = .ok (.iaload, 1) := by decide +kernel
theorem dX10_quickIn_247 : decode cX10_quickIn 247 = .ok (.if_icmp .ge 37, 3) := by decide +kernel
theorem dX10_quickIn_250 : decode cX10_quickIn 250 = .ok (.aload_n 0, 1) := by decide +kernel
theorem dX10_quickIn_251 : decode cX10_quickIn 251 = .ok (.aload_n 0, 1) := by decide +kernel
theorem dX10_quickIn_252 : decode cX10_quickIn 252 = .ok (.getfield 334, 3) := by decide +kernel
theorem dX10_quickIn_255 : decode cX10_quickIn 255 = .ok (.iconst 2, 1) := by decide +kernel
theorem dX10_quickIn_256 : decode cX10_quickIn 256 = .ok (.iadd, 1) := by decide +kernel
theorem dX10_quickIn_257 : decode cX10_quickIn 257 = .ok (.bipush 8, 2) := by decide +kernel
theorem dX10_quickIn_259 : decode cX10_quickIn 259 = .ok (.iload 8, 2) := by decide +kernel
theorem dX10_quickIn_261 : decode cX10_quickIn 261 = .ok (.imul, 1) := by decide +kernel
theorem dX10_quickIn_262 : decode cX10_quickIn 262 = .ok (.iadd, 1) := by decide +kernel
theorem dX10_quickIn_263 : decode cX10_quickIn 263 = .ok (.invokevirtual 400, 3) := by decide +kernel
theorem dX10_quickIn_266 : decode cX10_quickIn 266 = .ok (.ifCond .eq 12, 3) := by decide +kernel
theorem dX10_quickIn_269 : decode cX10_quickIn 269 = .ok (.aload_n 0, 1) := by decide +kernel
theorem dX10_quickIn_270 : decode cX10_quickIn 270 = .ok (.getfield 351, 3) := by decide +kernel
theorem dX10_quickIn_273 : decode cX10_quickIn 273 = .ok (.lstore 6, 2) := by decide +kernel
theorem dX10_quickIn_275 : decode cX10_quickIn 275 = .ok (.iconst 1, 1) := by decide +kernel
theorem dX10_quickIn_276 : decode cX10_quickIn 276 = .ok (.istore 5, 2) := by decide +kernel
theorem dX10_quickIn_278 : decode cX10_quickIn 278 = .ok (.iinc 8 1, 3) := by decide +kernel
theorem dX10_quickIn_281 : decode cX10_quickIn 281 = .ok (.goto (-47), 3) := by decide +kernel
theorem dX10_quickIn_284 : decode cX10_quickIn 284 = .ok (.iload 5, 2) := by decide +kernel
theorem dX10_quickIn_286 : decode cX10_quickIn 286 = .ok (.ifCond .ne 8, 3) := by decide +kernel
theorem dX10_quickIn_289 : decode cX10_quickIn 289 = .ok (.iload 4, 2) := by decide +kernel
theorem dX10_quickIn_291 : decode cX10_quickIn 291 = .ok (.goto 32, 3) := by decide +kernel
theorem dX10_quickIn_294 : decode cX10_quickIn 294 = .ok (.lload 6, 2) := by decide +kernel
theorem dX10_quickIn_296 : decode cX10_quickIn 296 = .ok (.lconst 0, 1) := by decide +kernel
theorem dX10_quickIn_297 : decode cX10_quickIn 297 = .ok (.lcmp, 1) := by decide +kernel
theorem dX10_quickIn_298 : decode cX10_quickIn 298 = .ok (.ifCond .ge 7, 3) := by decide +kernel
theorem dX10_quickIn_301 : decode cX10_quickIn 301 = .ok (.iconst 0, 1) := by decide +kernel
theorem dX10_quickIn_302 : decode cX10_quickIn 302 = .ok (.goto 21, 3) := by decide +kernel
theorem dX10_quickIn_305 : decode cX10_quickIn 305 = .ok (.lload 6, 2) := by decide +kernel
theorem dX10_quickIn_307 : decode cX10_quickIn 307 = .ok (.ldc2_w 181, 3) := by decide +kernel
theorem dX10_quickIn_310 : decode cX10_quickIn 310 = .ok (.lcmp, 1) := by decide +kernel
theorem dX10_quickIn_311 : decode cX10_quickIn 311 = .ok (.ifCond .le 9, 3) := by decide +kernel
theorem dX10_quickIn_314 : decode cX10_quickIn 314 = .ok (.sipush 999, 3) := by decide +kernel
theorem dX10_quickIn_317 : decode cX10_quickIn 317 = .ok (.goto 6, 3) := by decide +kernel
theorem dX10_quickIn_320 : decode cX10_quickIn 320 = .ok (.lload 6, 2) := by decide +kernel
theorem dX10_quickIn_322 : decode cX10_quickIn 322 = .ok (.l2i, 1) := by decide +kernel
theorem dX10_quickIn_323 : decode cX10_quickIn 323 = .ok (.ireturn, 1) := by decide +kernel
theorem dX10_kind_0 : decode cX10_kind 0 = .ok (.aload_n 0, 1) := by decide +kernel
theorem dX10_kind_1 : decode cX10_kind 1 = .ok (.iconst 0, 1) := by decide +kernel
theorem dX10_kind_2 : decode cX10_kind 2 = .ok (.putfield 103, 3) := by decide +kernel
theorem dX10_kind_5 : decode cX10_kind 5 = .ok (.aload_n 0, 1) := by decide +kernel
theorem dX10_kind_6 : decode cX10_kind 6 = .ok (.iload_n 1, 1) := by decide +kernel
theorem dX10_kind_7 : decode cX10_kind 7 = .ok (.invokevirtual 148, 3) := by decide +kernel
theorem dX10_kind_10 : decode cX10_kind 10 = .ok (.ifCond .eq 22, 3) := by decide +kernel
theorem dX10_kind_13 : decode cX10_kind 13 = .ok (.iload_n 2, 1) := by decide +kernel
theorem dX10_kind_14 : decode cX10_kind 14 = .ok (.invokestatic 178, 3) := by decide +kernel
theorem dX10_kind_17 : decode cX10_kind 17 = .ok (.ifCond .eq 15, 3) := by decide +kernel
theorem dX10_kind_20 : decode cX10_kind 20 = .ok (.iload_n 3, 1) := by decide +kernel
theorem dX10_kind_21 : decode cX10_kind 21 = .ok (.i2l, 1) := by decide +kernel
theorem dX10_kind_22 : decode cX10_kind 22 = .ok (.lconst 0, 1) := by decide +kernel
theorem dX10_kind_23 : decode cX10_kind 23 = .ok (.ldc2_w 403, 3) := by decide +kernel
theorem dX10_kind_26 : decode cX10_kind 26 = .ok (.invokestatic 113, 3) := by decide +kernel
theorem dX10_kind_29 : decode cX10_kind 29 = .ok (.ifCond .ne 5, 3) := by decide +kernel
theorem dX10_kind_32 : decode cX10_kind 32 = .ok (.iconst (-1), 1) := by decide +kernel
theorem dX10_kind_33 : decode cX10_kind 33 = .ok (.ireturn, 1) := by decide +kernel
theorem dX10_kind_34 : decode cX10_kind 34 = .ok (.aload_n 0, 1) := by decide +kernel
theorem dX10_kind_35 : decode cX10_kind 35 = .ok (.invokevirtual 405, 3) := by decide +kernel
theorem dX10_kind_38 : decode cX10_kind 38 = .ok (.aload_n 0, 1) := by decide +kernel
theorem dX10_kind_39 : decode cX10_kind 39 = .ok (.iload_n 1, 1) := by decide +kernel
theorem dX10_kind_40 : decode cX10_kind 40 = .ok (.iload_n 2, 1) := by decide +kernel
theorem dX10_kind_41 : decode cX10_kind 41 = .ok (.invokevirtual 408, 3) := by decide +kernel
theorem dX10_kind_44 : decode cX10_kind 44 = .ok (.istore 4, 2) := by decide +kernel
theorem dX10_kind_46 : decode cX10_kind 46 = .ok (.iload_n 3, 1) := by decide +kernel
theorem dX10_kind_47 : decode cX10_kind 47 = .ok (.tableswitch 84 0 5 #[37, 42, 47, 69, 74, 79], 37) := by decide +kernel
theorem dX10_kind_84 : decode cX10_kind 84 = .ok (.aload_n 0, 1) := by decide +kernel
theorem dX10_kind_85 : decode cX10_kind 85 = .ok (.getfield 376, 3) := by decide +kernel
theorem dX10_kind_88 : decode cX10_kind 88 = .ok (.ireturn, 1) := by decide +kernel
theorem dX10_kind_89 : decode cX10_kind 89 = .ok (.aload_n 0, 1) := by decide +kernel
theorem dX10_kind_90 : decode cX10_kind 90 = .ok (.getfield 394, 3) := by decide +kernel
theorem dX10_kind_93 : decode cX10_kind 93 = .ok (.ireturn, 1) := by decide +kernel
theorem dX10_kind_94 : decode cX10_kind 94 = .ok (.aload_n 0, 1) := by decide +kernel
theorem dX10_kind_95 : decode cX10_kind 95 = .ok (.getfield 379, 3) := by decide +kernel
theorem dX10_kind_98 : decode cX10_kind 98 = .ok (.iconst (-1), 1) := by decide +kernel
theorem dX10_kind_99 : decode cX10_kind 99 = .ok (.if_icmp .ne 7, 3) := by decide +kernel
theorem dX10_kind_102 : decode cX10_kind 102 = .ok (.iconst 0, 1) := by decide +kernel
theorem dX10_kind_103 : decode cX10_kind 103 = .ok (.goto 12, 3) := by decide +kernel
theorem dX10_kind_106 : decode cX10_kind 106 = .ok (.aload_n 0, 1) := by decide +kernel
theorem dX10_kind_107 : decode cX10_kind 107 = .ok (.getfield 85, 3) := by decide +kernel
theorem dX10_kind_110 : decode cX10_kind 110 = .ok (.aload_n 0, 1) := by decide +kernel
theorem dX10_kind_111 : decode cX10_kind 111 = .ok (.getfield 379, 3) := by decide +kernel
theorem dX10_kind_114 : decode cX10_kind 114 = .ok (.iaload, 1) := by decide +kernel
theorem dX10_kind_115 : decode cX10_kind 115 = .ok (.ireturn, 1) := by decide +kernel
theorem dX10_kind_116 : decode cX10_kind 116 = .ok (.aload_n 0, 1) := by decide +kernel
theorem dX10_kind_117 : decode cX10_kind 117 = .ok (.getfield 385, 3) := by decide +kernel
theorem dX10_kind_120 : decode cX10_kind 120 = .ok (.ireturn, 1) := by decide +kernel
theorem dX10_kind_121 : decode cX10_kind 121 = .ok (.aload_n 0, 1) := by decide +kernel
theorem dX10_kind_122 : decode cX10_kind 122 = .ok (.getfield 388, 3) := by decide +kernel
theorem dX10_kind_125 : decode cX10_kind 125 = .ok (.ireturn, 1) := by decide +kernel
theorem dX10_kind_126 : decode cX10_kind 126 = .ok (.aload_n 0, 1) := by decide +kernel
theorem dX10_kind_127 : decode cX10_kind 127 = .ok (.getfield 382, 3) := by decide +kernel
theorem dX10_kind_130 : decode cX10_kind 130 = .ok (.ireturn, 1) := by decide +kernel
theorem dX10_kind_131 : decode cX10_kind 131 = .ok (.iload 4, 2) := by decide +kernel
theorem dX10_kind_133 : decode cX10_kind 133 = .ok (.ireturn, 1) := by decide +kernel
theorem dX10_kinds_0 : decode cX10_kinds 0 = .ok (.aload_n 0, 1) := by decide +kernel
theorem dX10_kinds_1 : decode cX10_kinds 1 = .ok (.iconst 0, 1) := by decide +kernel
theorem dX10_kinds_2 : decode cX10_kinds 2 = .ok (.putfield 103, 3) := by decide +kernel
theorem dX10_kinds_5 : decode cX10_kinds 5 = .ok (.iload_n 1, 1) := by decide +kernel
theorem dX10_kinds_6 : decode cX10_kinds 6 = .ok (.i2l, 1) := by decide +kernel
theorem dX10_kinds_7 : decode cX10_kinds 7 = .ok (.lconst 0, 1) := by decide +kernel
theorem dX10_kinds_8 : decode cX10_kinds 8 = .ok (.ldc2_w 411, 3) := by decide +kernel
theorem dX10_kinds_11 : decode cX10_kinds 11 = .ok (.invokestatic 113, 3) := by decide +kernel
theorem dX10_kinds_14 : decode cX10_kinds 14 = .ok (.ifCond .eq 10, 3) := by decide +kernel
theorem dX10_kinds_17 : decode cX10_kinds 17 = .ok (.iload_n 2, 1) := by decide +kernel
theorem dX10_kinds_18 : decode cX10_kinds 18 = .ok (.invokestatic 178, 3) := by decide +kernel
theorem dX10_kinds_21 : decode cX10_kinds 21 = .ok (.ifCond .ne 5, 3) := by decide +kernel
theorem dX10_kinds_24 : decode cX10_kinds 24 = .ok (.iconst (-1), 1) := by decide +kernel
theorem dX10_kinds_25 : decode cX10_kinds 25 = .ok (.ireturn, 1) := by decide +kernel
theorem dX10_kinds_26 : decode cX10_kinds 26 = .ok (.aload_n 0, 1) := by decide +kernel
theorem dX10_kinds_27 : decode cX10_kinds 27 = .ok (.invokevirtual 405, 3) := by decide +kernel
theorem dX10_kinds_30 : decode cX10_kinds 30 = .ok (.iconst 0, 1) := by decide +kernel
theorem dX10_kinds_31 : decode cX10_kinds 31 = .ok (.istore_n 3, 1) := by decide +kernel
theorem dX10_kinds_32 : decode cX10_kinds 32 = .ok (.iconst 0, 1) := by decide +kernel
theorem dX10_kinds_33 : decode cX10_kinds 33 = .ok (.istore 4, 2) := by decide +kernel
theorem dX10_kinds_35 : decode cX10_kinds 35 = .ok (.iload 4, 2) := by decide +kernel
theorem dX10_kinds_37 : decode cX10_kinds 37 = .ok (.bipush 100, 2) := by decide +kernel
theorem dX10_kinds_39 : decode cX10_kinds 39 = .ok (.if_icmp .ge 43, 3) := by decide +kernel
theorem dX10_kinds_42 : decode cX10_kinds 42 = .ok (.aload_n 0, 1) := by decide +kernel
theorem dX10_kinds_43 : decode cX10_kinds 43 = .ok (.getfield 73, 3) := by decide +kernel
theorem dX10_kinds_46 : decode cX10_kinds 46 = .ok (.iload 4, 2) := by decide +kernel
theorem dX10_kinds_48 : decode cX10_kinds 48 = .ok (.iaload, 1) := by decide +kernel
theorem dX10_kinds_49 : decode cX10_kinds 49 = .ok (.iconst (-1), 1) := by decide +kernel
theorem dX10_kinds_50 : decode cX10_kinds 50 = .ok (.if_icmp .ne 26, 3) := by decide +kernel
theorem dX10_kinds_53 : decode cX10_kinds 53 = .ok (.aload_n 0, 1) := by decide +kernel
theorem dX10_kinds_54 : decode cX10_kinds 54 = .ok (.iload 4, 2) := by decide +kernel
theorem dX10_kinds_56 : decode cX10_kinds 56 = .ok (.iload_n 2, 1) := by decide +kernel
theorem dX10_kinds_57 : decode cX10_kinds 57 = .ok (.invokevirtual 397, 3) := by decide +kernel
theorem dX10_kinds_60 : decode cX10_kinds 60 = .ok (.iload_n 3, 1) := by decide +kernel
theorem dX10_kinds_61 : decode cX10_kinds 61 = .ok (.aload_n 0, 1) := by decide +kernel
theorem dX10_kinds_62 : decode cX10_kinds 62 = .ok (.getfield 376, 3) := by decide +kernel
theorem dX10_kinds_65 : decode cX10_kinds 65 = .ok (.iload_n 1, 1) := by decide +kernel
theorem dX10_kinds_66 : decode cX10_kinds 66 = .ok (.if_icmp .ne 7, 3) := by decide +kernel
theorem dX10_kinds_69 : decode cX10_kinds 69 = .ok (.iconst 1, 1) := by decide +kernel
theorem dX10_kinds_70 : decode cX10_kinds 70 = .ok (.goto 4, 3) := by decide +kernel
theorem dX10_kinds_73 : decode cX10_kinds 73 = .ok (.iconst 0, 1) := by decide +kernel
theorem dX10_kinds_74 : decode cX10_kinds 74 = .ok (.iadd, 1) := by decide +kernel
theorem dX10_kinds_75 : decode cX10_kinds 75 = .ok (.istore_n 3, 1) := by decide +kernel
theorem dX10_kinds_76 : decode cX10_kinds 76 = .ok (.iinc 4 1, 3) := by decide +kernel
theorem dX10_kinds_79 : decode cX10_kinds 79 = .ok (.goto (-44), 3) := by decide +kernel
theorem dX10_kinds_82 : decode cX10_kinds 82 = .ok (.iload_n 3, 1) := by decide +kernel
theorem dX10_kinds_83 : decode cX10_kinds 83 = .ok (.ireturn, 1) := by decide +kernel
theorem dX10_hoursAbove_0 : decode cX10_hoursAbove 0 = .ok (.iconst 0, 1) := by decide +kernel
theorem dX10_hoursAbove_1 : decode cX10_hoursAbove 1 = .ok (.istore_n 3, 1) := by decide +kernel
theorem dX10_hoursAbove_2 : decode cX10_hoursAbove 2 = .ok (.iconst 0, 1) := by decide +kernel
theorem dX10_hoursAbove_3 : decode cX10_hoursAbove 3 = .ok (.istore 4, 2) := by decide +kernel
theorem dX10_hoursAbove_5 : decode cX10_hoursAbove 5 = .ok (.iload 4, 2) := by decide +kernel
theorem dX10_hoursAbove_7 : decode cX10_hoursAbove 7 = .ok (.iconst 4, 1) := by decide +kernel
theorem dX10_hoursAbove_8 : decode cX10_hoursAbove 8 = .ok (.if_icmp .ge 70, 3) := by decide +kernel
theorem dX10_hoursAbove_11 : decode cX10_hoursAbove 11 = .ok (.aload_n 0, 1) := by decide +kernel
theorem dX10_hoursAbove_12 : decode cX10_hoursAbove 12 = .ok (.iload_n 1, 1) := by decide +kernel
theorem dX10_hoursAbove_13 : decode cX10_hoursAbove 13 = .ok (.iload 4, 2) := by decide +kernel
theorem dX10_hoursAbove_15 : decode cX10_hoursAbove 15 = .ok (.invokevirtual 408, 3) := by decide +kernel
theorem dX10_hoursAbove_18 : decode cX10_hoursAbove 18 = .ok (.istore 5, 2) := by decide +kernel
theorem dX10_hoursAbove_20 : decode cX10_hoursAbove 20 = .ok (.iconst 0, 1) := by decide +kernel
theorem dX10_hoursAbove_21 : decode cX10_hoursAbove 21 = .ok (.istore 6, 2) := by decide +kernel
theorem dX10_hoursAbove_23 : decode cX10_hoursAbove 23 = .ok (.iload 6, 2) := by decide +kernel
theorem dX10_hoursAbove_25 : decode cX10_hoursAbove 25 = .ok (.bipush 10, 2) := by decide +kernel
theorem dX10_hoursAbove_27 : decode cX10_hoursAbove 27 = .ok (.if_icmp .ge 45, 3) := by decide +kernel
theorem dX10_hoursAbove_30 : decode cX10_hoursAbove 30 = .ok (.iload_n 3, 1) := by decide +kernel
theorem dX10_hoursAbove_31 : decode cX10_hoursAbove 31 = .ok (.iload 6, 2) := by decide +kernel
theorem dX10_hoursAbove_33 : decode cX10_hoursAbove 33 = .ok (.iload 5, 2) := by decide +kernel
theorem dX10_hoursAbove_35 : decode cX10_hoursAbove 35 = .ok (.imul, 1) := by decide +kernel
theorem dX10_hoursAbove_36 : decode cX10_hoursAbove 36 = .ok (.bipush 100, 2) := by decide +kernel
theorem dX10_hoursAbove_38 : decode cX10_hoursAbove 38 = .ok (.iload_n 2, 1) := by decide +kernel
theorem dX10_hoursAbove_39 : decode cX10_hoursAbove 39 = .ok (.imul, 1) := by decide +kernel
theorem dX10_hoursAbove_40 : decode cX10_hoursAbove 40 = .ok (.if_icmp .le 23, 3) := by decide +kernel
theorem dX10_hoursAbove_43 : decode cX10_hoursAbove 43 = .ok (.aload_n 0, 1) := by decide +kernel
theorem dX10_hoursAbove_44 : decode cX10_hoursAbove 44 = .ok (.getfield 13, 3) := by decide +kernel
theorem dX10_hoursAbove_47 : decode cX10_hoursAbove 47 = .ok (.sipush 341, 3) := by decide +kernel
theorem dX10_hoursAbove_50 : decode cX10_hoursAbove 50 = .ok (.bipush 10, 2) := by decide +kernel
theorem dX10_hoursAbove_52 : decode cX10_hoursAbove 52 = .ok (.iload 4, 2) := by decide +kernel
theorem dX10_hoursAbove_54 : decode cX10_hoursAbove 54 = .ok (.imul, 1) := by decide +kernel
theorem dX10_hoursAbove_55 : decode cX10_hoursAbove 55 = .ok (.iadd, 1) := by decide +kernel
theorem dX10_hoursAbove_56 : decode cX10_hoursAbove 56 = .ok (.iload 6, 2) := by decide +kernel
theorem dX10_hoursAbove_58 : decode cX10_hoursAbove 58 = .ok (.iadd, 1) := by decide +kernel
theorem dX10_hoursAbove_59 : decode cX10_hoursAbove 59 = .ok (.iaload, 1) := by decide +kernel
theorem dX10_hoursAbove_60 : decode cX10_hoursAbove 60 = .ok (.goto 4, 3) := by decide +kernel
theorem dX10_hoursAbove_63 : decode cX10_hoursAbove 63 = .ok (.iconst 0, 1) := by decide +kernel
theorem dX10_hoursAbove_64 : decode cX10_hoursAbove 64 = .ok (.iadd, 1) := by decide +kernel
theorem dX10_hoursAbove_65 : decode cX10_hoursAbove 65 = .ok (.istore_n 3, 1) := by decide +kernel
theorem dX10_hoursAbove_66 : decode cX10_hoursAbove 66 = .ok (.iinc 6 1, 3) := by decide +kernel
theorem dX10_hoursAbove_69 : decode cX10_hoursAbove 69 = .ok (.goto (-46), 3) := by decide +kernel
theorem dX10_hoursAbove_72 : decode cX10_hoursAbove 72 = .ok (.iinc 4 1, 3) := by decide +kernel
theorem dX10_hoursAbove_75 : decode cX10_hoursAbove 75 = .ok (.goto (-70), 3) := by decide +kernel
theorem dX10_hoursAbove_78 : decode cX10_hoursAbove 78 = .ok (.iload_n 3, 1) := by decide +kernel
theorem dX10_hoursAbove_79 : decode cX10_hoursAbove 79 = .ok (.ireturn, 1) := by decide +kernel
theorem dX10_paceOf_0 : decode cX10_paceOf 0 = .ok (.aload_n 0, 1) := by decide +kernel
theorem dX10_paceOf_1 : decode cX10_paceOf 1 = .ok (.getfield 13, 3) := by decide +kernel
theorem dX10_paceOf_4 : decode cX10_paceOf 4 = .ok (.iconst 5, 1) := by decide +kernel
theorem dX10_paceOf_5 : decode cX10_paceOf 5 = .ok (.iconst 2, 1) := by decide +kernel
theorem dX10_paceOf_6 : decode cX10_paceOf 6 = .ok (.iload_n 1, 1) := by decide +kernel
theorem dX10_paceOf_7 : decode cX10_paceOf 7 = .ok (.iconst 1, 1) := by decide +kernel
theorem dX10_paceOf_8 : decode cX10_paceOf 8 = .ok (.isub, 1) := by decide +kernel
theorem dX10_paceOf_9 : decode cX10_paceOf 9 = .ok (.imul, 1) := by decide +kernel
theorem dX10_paceOf_10 : decode cX10_paceOf 10 = .ok (.iadd, 1) := by decide +kernel
theorem dX10_paceOf_11 : decode cX10_paceOf 11 = .ok (.iaload, 1) := by decide +kernel
theorem dX10_paceOf_12 : decode cX10_paceOf 12 = .ok (.ireturn, 1) := by decide +kernel
theorem dX10_overIn_0 : decode cX10_overIn 0 = .ok (.aload_n 0, 1) := by decide +kernel
theorem dX10_overIn_1 : decode cX10_overIn 1 = .ok (.getfield 73, 3) := by decide +kernel
theorem dX10_overIn_4 : decode cX10_overIn 4 = .ok (.iload_n 1, 1) := by decide +kernel
theorem dX10_overIn_5 : decode cX10_overIn 5 = .ok (.iaload, 1) := by decide +kernel
theorem dX10_overIn_6 : decode cX10_overIn 6 = .ok (.iconst (-1), 1) := by decide +kernel
theorem dX10_overIn_7 : decode cX10_overIn 7 = .ok (.if_icmp .ne 12, 3) := by decide +kernel
theorem dX10_overIn_10 : decode cX10_overIn 10 = .ok (.aload_n 0, 1) := by decide +kernel
theorem dX10_overIn_11 : decode cX10_overIn 11 = .ok (.getfield 82, 3) := by decide +kernel
theorem dX10_overIn_14 : decode cX10_overIn 14 = .ok (.iload_n 1, 1) := by decide +kernel
theorem dX10_overIn_15 : decode cX10_overIn 15 = .ok (.iaload, 1) := by decide +kernel
theorem dX10_overIn_16 : decode cX10_overIn 16 = .ok (.ifCond .ne 5, 3) := by decide +kernel
theorem dX10_overIn_19 : decode cX10_overIn 19 = .ok (.iconst 0, 1) := by decide +kernel
theorem dX10_overIn_20 : decode cX10_overIn 20 = .ok (.ireturn, 1) := by decide +kernel
theorem dX10_overIn_21 : decode cX10_overIn 21 = .ok (.aload_n 0, 1) := by decide +kernel
theorem dX10_overIn_22 : decode cX10_overIn 22 = .ok (.iload_n 1, 1) := by decide +kernel
theorem dX10_overIn_23 : decode cX10_overIn 23 = .ok (.aload_n 0, 1) := by decide +kernel
theorem dX10_overIn_24 : decode cX10_overIn 24 = .ok (.aload_n 0, 1) := by decide +kernel
theorem dX10_overIn_25 : decode cX10_overIn 25 = .ok (.getfield 82, 3) := by decide +kernel
theorem dX10_overIn_28 : decode cX10_overIn 28 = .ok (.iload_n 1, 1) := by decide +kernel
theorem dX10_overIn_29 : decode cX10_overIn 29 = .ok (.iaload, 1) := by decide +kernel
theorem dX10_overIn_30 : decode cX10_overIn 30 = .ok (.invokevirtual 413, 3) := by decide +kernel
theorem dX10_overIn_33 : decode cX10_overIn 33 = .ok (.invokevirtual 416, 3) := by decide +kernel
theorem dX10_overIn_36 : decode cX10_overIn 36 = .ok (.aload_n 0, 1) := by decide +kernel
theorem dX10_overIn_37 : decode cX10_overIn 37 = .ok (.getfield 13, 3) := by decide +kernel
theorem dX10_overIn_40 : decode cX10_overIn 40 = .ok (.iconst 5, 1) := by decide +kernel
theorem dX10_overIn_41 : decode cX10_overIn 41 = .ok (.iconst 2, 1) := by decide +kernel
theorem dX10_overIn_42 : decode cX10_overIn 42 = .ok (.aload_n 0, 1) := by decide +kernel
theorem dX10_overIn_43 : decode cX10_overIn 43 = .ok (.getfield 82, 3) := by decide +kernel
theorem dX10_overIn_46 : decode cX10_overIn 46 = .ok (.iload_n 1, 1) := by decide +kernel
theorem dX10_overIn_47 : decode cX10_overIn 47 = .ok (.iaload, 1) := by decide +kernel
theorem dX10_overIn_48 : decode cX10_overIn 48 = .ok (.iconst 1, 1) := by decide +kernel
theorem dX10_overIn_49 : decode cX10_overIn 49 = .ok (.isub, 1) := by decide +kernel
theorem dX10_overIn_50 : decode cX10_overIn 50 = .ok (.imul, 1) := by decide +kernel
theorem dX10_overIn_51 : decode cX10_overIn 51 = .ok (.iadd, 1) := by decide +kernel
theorem dX10_overIn_52 : decode cX10_overIn 52 = .ok (.iconst 1, 1) := by decide +kernel
theorem dX10_overIn_53 : decode cX10_overIn 53 = .ok (.iadd, 1) := by decide +kernel
theorem dX10_overIn_54 : decode cX10_overIn 54 = .ok (.iaload, 1) := by decide +kernel
theorem dX10_overIn_55 : decode cX10_overIn 55 = .ok (.isub, 1) := by decide +kernel
theorem dX10_overIn_56 : decode cX10_overIn 56 = .ok (.istore_n 2, 1) := by decide +kernel
theorem dX10_overIn_57 : decode cX10_overIn 57 = .ok (.iload_n 2, 1) := by decide +kernel
theorem dX10_overIn_58 : decode cX10_overIn 58 = .ok (.ifCond .ge 7, 3) := by decide +kernel
theorem dX10_overIn_61 : decode cX10_overIn 61 = .ok (.iconst 0, 1) := by decide +kernel
theorem dX10_overIn_62 : decode cX10_overIn 62 = .ok (.goto 4, 3) := by decide +kernel
theorem dX10_overIn_65 : decode cX10_overIn 65 = .ok (.iload_n 2, 1) := by decide +kernel
theorem dX10_overIn_66 : decode cX10_overIn 66 = .ok (.ireturn, 1) := by decide +kernel
theorem dX10_overAll_0 : decode cX10_overAll 0 = .ok (.iconst 0, 1) := by decide +kernel
theorem dX10_overAll_1 : decode cX10_overAll 1 = .ok (.istore_n 1, 1) := by decide +kernel
theorem dX10_overAll_2 : decode cX10_overAll 2 = .ok (.iconst 0, 1) := by decide +kernel
theorem dX10_overAll_3 : decode cX10_overAll 3 = .ok (.istore_n 2, 1) := by decide +kernel
theorem dX10_overAll_4 : decode cX10_overAll 4 = .ok (.iload_n 2, 1) := by decide +kernel
theorem dX10_overAll_5 : decode cX10_overAll 5 = .ok (.bipush 100, 2) := by decide +kernel
theorem dX10_overAll_7 : decode cX10_overAll 7 = .ok (.if_icmp .ge 17, 3) := by decide +kernel
theorem dX10_overAll_10 : decode cX10_overAll 10 = .ok (.iload_n 1, 1) := by decide +kernel
theorem dX10_overAll_11 : decode cX10_overAll 11 = .ok (.aload_n 0, 1) := by decide +kernel
theorem dX10_overAll_12 : decode cX10_overAll 12 = .ok (.iload_n 2, 1) := by decide +kernel
theorem dX10_overAll_13 : decode cX10_overAll 13 = .ok (.invokevirtual 419, 3) := by decide +kernel
theorem dX10_overAll_16 : decode cX10_overAll 16 = .ok (.iadd, 1) := by decide +kernel
theorem dX10_overAll_17 : decode cX10_overAll 17 = .ok (.istore_n 1, 1) := by decide +kernel
theorem dX10_overAll_18 : decode cX10_overAll 18 = .ok (.iinc 2 1, 3) := by decide +kernel
theorem dX10_overAll_21 : decode cX10_overAll 21 = .ok (.goto (-17), 3) := by decide +kernel
theorem dX10_overAll_24 : decode cX10_overAll 24 = .ok (.iload_n 1, 1) := by decide +kernel
theorem dX10_overAll_25 : decode cX10_overAll 25 = .ok (.ireturn, 1) := by decide +kernel
theorem dX10_above_0 : decode cX10_above 0 = .ok (.aload_n 0, 1) := by decide +kernel
theorem dX10_above_1 : decode cX10_above 1 = .ok (.iconst 0, 1) := by decide +kernel
theorem dX10_above_2 : decode cX10_above 2 = .ok (.putfield 103, 3) := by decide +kernel
theorem dX10_above_5 : decode cX10_above 5 = .ok (.aload_n 0, 1) := by decide +kernel
theorem dX10_above_6 : decode cX10_above 6 = .ok (.iload_n 1, 1) := by decide +kernel
theorem dX10_above_7 : decode cX10_above 7 = .ok (.invokevirtual 148, 3) := by decide +kernel
theorem dX10_above_10 : decode cX10_above 10 = .ok (.ifCond .eq 15, 3) := by decide +kernel
theorem dX10_above_13 : decode cX10_above 13 = .ok (.iload_n 2, 1) := by decide +kernel
theorem dX10_above_14 : decode cX10_above 14 = .ok (.i2l, 1) := by decide +kernel
theorem dX10_above_15 : decode cX10_above 15 = .ok (.lconst 0, 1) := by decide +kernel
theorem dX10_above_16 : decode cX10_above 16 = .ok (.ldc2_w 176, 3) := by decide +kernel
theorem dX10_above_19 : decode cX10_above 19 = .ok (.invokestatic 113, 3) := by decide +kernel
theorem dX10_above_22 : decode cX10_above 22 = .ok (.ifCond .ne 5, 3) := by decide +kernel
theorem dX10_above_25 : decode cX10_above 25 = .ok (.iconst (-1), 1) := by decide +kernel
theorem dX10_above_26 : decode cX10_above 26 = .ok (.ireturn, 1) := by decide +kernel
theorem dX10_above_27 : decode cX10_above 27 = .ok (.aload_n 0, 1) := by decide +kernel
theorem dX10_above_28 : decode cX10_above 28 = .ok (.invokevirtual 405, 3) := by decide +kernel
theorem dX10_above_31 : decode cX10_above 31 = .ok (.aload_n 0, 1) := by decide +kernel
theorem dX10_above_32 : decode cX10_above 32 = .ok (.iload_n 1, 1) := by decide +kernel
theorem dX10_above_33 : decode cX10_above 33 = .ok (.iload_n 2, 1) := by decide +kernel
theorem dX10_above_34 : decode cX10_above 34 = .ok (.invokevirtual 416, 3) := by decide +kernel
theorem dX10_above_37 : decode cX10_above 37 = .ok (.ireturn, 1) := by decide +kernel
theorem dX10_over_0 : decode cX10_over 0 = .ok (.aload_n 0, 1) := by decide +kernel
theorem dX10_over_1 : decode cX10_over 1 = .ok (.iconst 0, 1) := by decide +kernel
theorem dX10_over_2 : decode cX10_over 2 = .ok (.putfield 103, 3) := by decide +kernel
theorem dX10_over_5 : decode cX10_over 5 = .ok (.iload_n 1, 1) := by decide +kernel
theorem dX10_over_6 : decode cX10_over 6 = .ok (.iconst (-1), 1) := by decide +kernel
theorem dX10_over_7 : decode cX10_over 7 = .ok (.if_icmp .eq 13, 3) := by decide +kernel
theorem dX10_over_10 : decode cX10_over 10 = .ok (.aload_n 0, 1) := by decide +kernel
theorem dX10_over_11 : decode cX10_over 11 = .ok (.iload_n 1, 1) := by decide +kernel
theorem dX10_over_12 : decode cX10_over 12 = .ok (.invokevirtual 148, 3) := by decide +kernel
theorem dX10_over_15 : decode cX10_over 15 = .ok (.ifCond .ne 5, 3) := by decide +kernel
theorem dX10_over_18 : decode cX10_over 18 = .ok (.iconst (-1), 1) := by decide +kernel
theorem dX10_over_19 : decode cX10_over 19 = .ok (.ireturn, 1) := by decide +kernel
theorem dX10_over_20 : decode cX10_over 20 = .ok (.aload_n 0, 1) := by decide +kernel
theorem dX10_over_21 : decode cX10_over 21 = .ok (.invokevirtual 405, 3) := by decide +kernel
theorem dX10_over_24 : decode cX10_over 24 = .ok (.iload_n 1, 1) := by decide +kernel
theorem dX10_over_25 : decode cX10_over 25 = .ok (.iconst (-1), 1) := by decide +kernel
theorem dX10_over_26 : decode cX10_over 26 = .ok (.if_icmp .ne 10, 3) := by decide +kernel
theorem dX10_over_29 : decode cX10_over 29 = .ok (.aload_n 0, 1) := by decide +kernel
theorem dX10_over_30 : decode cX10_over 30 = .ok (.invokevirtual 422, 3) := by decide +kernel
theorem dX10_over_33 : decode cX10_over 33 = .ok (.goto 8, 3) := by decide +kernel
theorem dX10_over_36 : decode cX10_over 36 = .ok (.aload_n 0, 1) := by decide +kernel
theorem dX10_over_37 : decode cX10_over 37 = .ok (.iload_n 1, 1) := by decide +kernel
theorem dX10_over_38 : decode cX10_over 38 = .ok (.invokevirtual 419, 3) := by decide +kernel
theorem dX10_over_41 : decode cX10_over 41 = .ok (.ireturn, 1) := by decide +kernel
theorem dX10_inOrder_0 : decode cX10_inOrder 0 = .ok (.iconst 0, 1) := by decide +kernel
theorem dX10_inOrder_1 : decode cX10_inOrder 1 = .ok (.istore_n 3, 1) := by decide +kernel
theorem dX10_inOrder_2 : decode cX10_inOrder 2 = .ok (.iconst 0, 1) := by decide +kernel
theorem dX10_inOrder_3 : decode cX10_inOrder 3 = .ok (.istore 4, 2) := by decide +kernel
theorem dX10_inOrder_5 : decode cX10_inOrder 5 = .ok (.iload 4, 2) := by decide +kernel
theorem dX10_inOrder_7 : decode cX10_inOrder 7 = .ok (.bipush 100, 2) := by decide +kernel
theorem dX10_inOrder_9 : decode cX10_inOrder 9 = .ok (.if_icmp .ge 27, 3) := by decide +kernel
theorem dX10_inOrder_12 : decode cX10_inOrder 12 = .ok (.iload_n 3, 1) := by decide +kernel
theorem dX10_inOrder_13 : decode cX10_inOrder 13 = .ok (.aload_n 0, 1) := by decide +kernel
theorem dX10_inOrder_14 : decode cX10_inOrder 14 = .ok (.getfield 91, 3) := by decide +kernel
theorem dX10_inOrder_17 : decode cX10_inOrder 17 = .ok (.iload 4, 2) := by decide +kernel
theorem dX10_inOrder_19 : decode cX10_inOrder 19 = .ok (.baload, 1) := by decide +kernel
theorem dX10_inOrder_20 : decode cX10_inOrder 20 = .ok (.ifCond .eq 7, 3) := by decide +kernel
theorem dX10_inOrder_23 : decode cX10_inOrder 23 = .ok (.iconst 1, 1) := by decide +kernel
theorem dX10_inOrder_24 : decode cX10_inOrder 24 = .ok (.goto 4, 3) := by decide +kernel
theorem dX10_inOrder_27 : decode cX10_inOrder 27 = .ok (.iconst 0, 1) := by decide +kernel
theorem dX10_inOrder_28 : decode cX10_inOrder 28 = .ok (.iadd, 1) := by decide +kernel
theorem dX10_inOrder_29 : decode cX10_inOrder 29 = .ok (.istore_n 3, 1) := by decide +kernel
theorem dX10_inOrder_30 : decode cX10_inOrder 30 = .ok (.iinc 4 1, 3) := by decide +kernel
theorem dX10_inOrder_33 : decode cX10_inOrder 33 = .ok (.goto (-28), 3) := by decide +kernel
theorem dX10_inOrder_36 : decode cX10_inOrder 36 = .ok (.iload_n 1, 1) := by decide +kernel
theorem dX10_inOrder_37 : decode cX10_inOrder 37 = .ok (.iconst (-1), 1) := by decide +kernel
theorem dX10_inOrder_38 : decode cX10_inOrder 38 = .ok (.if_icmp .ne 5, 3) := by decide +kernel
theorem dX10_inOrder_41 : decode cX10_inOrder 41 = .ok (.iload_n 3, 1) := by decide +kernel
theorem dX10_inOrder_42 : decode cX10_inOrder 42 = .ok (.ireturn, 1) := by decide +kernel
theorem dX10_inOrder_43 : decode cX10_inOrder 43 = .ok (.iconst 0, 1) := by decide +kernel
theorem dX10_inOrder_44 : decode cX10_inOrder 44 = .ok (.istore 4, 2) := by decide +kernel
theorem dX10_inOrder_46 : decode cX10_inOrder 46 = .ok (.iload 4, 2) := by decide +kernel
theorem dX10_inOrder_48 : decode cX10_inOrder 48 = .ok (.bipush 100, 2) := by decide +kernel
theorem dX10_inOrder_50 : decode cX10_inOrder 50 = .ok (.if_icmp .ge 133, 3) := by decide +kernel
theorem dX10_inOrder_53 : decode cX10_inOrder 53 = .ok (.iconst 0, 1) := by decide +kernel
theorem dX10_inOrder_54 : decode cX10_inOrder 54 = .ok (.istore 5, 2) := by decide +kernel
theorem dX10_inOrder_56 : decode cX10_inOrder 56 = .ok (.iconst 0, 1) := by decide +kernel
theorem dX10_inOrder_57 : decode cX10_inOrder 57 = .ok (.istore 6, 2) := by decide +kernel
theorem dX10_inOrder_59 : decode cX10_inOrder 59 = .ok (.iload 6, 2) := by decide +kernel
theorem dX10_inOrder_61 : decode cX10_inOrder 61 = .ok (.bipush 100, 2) := by decide +kernel
theorem dX10_inOrder_63 : decode cX10_inOrder 63 = .ok (.if_icmp .ge 95, 3) := by decide +kernel
theorem dX10_inOrder_66 : decode cX10_inOrder 66 = .ok (.aload_n 0, 1) := by decide +kernel
theorem dX10_inOrder_67 : decode cX10_inOrder 67 = .ok (.getfield 91, 3) := by decide +kernel
theorem dX10_inOrder_70 : decode cX10_inOrder 70 = .ok (.iload 4, 2) := by decide +kernel
theorem dX10_inOrder_72 : decode cX10_inOrder 72 = .ok (.baload, 1) := by decide +kernel
theorem dX10_inOrder_73 : decode cX10_inOrder 73 = .ok (.ifCond .eq 85, 3) := by decide +kernel
theorem dX10_inOrder_76 : decode cX10_inOrder 76 = .ok (.iload_n 2, 1) := by decide +kernel
theorem dX10_inOrder_77 : decode cX10_inOrder 77 = .ok (.ifCond .eq 21, 3) := by decide +kernel
theorem dX10_inOrder_80 : decode cX10_inOrder 80 = .ok (.aload_n 0, 1) := by decide +kernel
theorem dX10_inOrder_81 : decode cX10_inOrder 81 = .ok (.getfield 88, 3) := by decide +kernel
theorem dX10_inOrder_84 : decode cX10_inOrder 84 = .ok (.iload 6, 2) := by decide +kernel
theorem dX10_inOrder_86 : decode cX10_inOrder 86 = .ok (.iaload, 1) := by decide +kernel
theorem dX10_inOrder_87 : decode cX10_inOrder 87 = .ok (.aload_n 0, 1) := by decide +kernel
theorem dX10_inOrder_88 : decode cX10_inOrder 88 = .ok (.getfield 88, 3) := by decide +kernel
theorem dX10_inOrder_91 : decode cX10_inOrder 91 = .ok (.iload 4, 2) := by decide +kernel
theorem dX10_inOrder_93 : decode cX10_inOrder 93 = .ok (.iaload, 1) := by decide +kernel
theorem dX10_inOrder_94 : decode cX10_inOrder 94 = .ok (.isub, 1) := by decide +kernel
theorem dX10_inOrder_95 : decode cX10_inOrder 95 = .ok (.goto 18, 3) := by decide +kernel
theorem dX10_inOrder_98 : decode cX10_inOrder 98 = .ok (.aload_n 0, 1) := by decide +kernel
theorem dX10_inOrder_99 : decode cX10_inOrder 99 = .ok (.getfield 88, 3) := by decide +kernel
theorem dX10_inOrder_102 : decode cX10_inOrder 102 = .ok (.iload 4, 2) := by decide +kernel
theorem dX10_inOrder_104 : decode cX10_inOrder 104 = .ok (.iaload, 1) := by decide +kernel
theorem dX10_inOrder_105 : decode cX10_inOrder 105 = .ok (.aload_n 0, 1) := by decide +kernel
theorem dX10_inOrder_106 : decode cX10_inOrder 106 = .ok (.getfield 88, 3) := by decide +kernel
theorem dX10_inOrder_109 : decode cX10_inOrder 109 = .ok (.iload 6, 2) := by decide +kernel
theorem dX10_inOrder_111 : decode cX10_inOrder 111 = .ok (.iaload, 1) := by decide +kernel
theorem dX10_inOrder_112 : decode cX10_inOrder 112 = .ok (.isub, 1) := by decide +kernel
theorem dX10_inOrder_113 : decode cX10_inOrder 113 = .ok (.istore 7, 2) := by decide +kernel
theorem dX10_inOrder_115 : decode cX10_inOrder 115 = .ok (.iload 5, 2) := by decide +kernel
theorem dX10_inOrder_117 : decode cX10_inOrder 117 = .ok (.aload_n 0, 1) := by decide +kernel
theorem dX10_inOrder_118 : decode cX10_inOrder 118 = .ok (.getfield 91, 3) := by decide +kernel
theorem dX10_inOrder_121 : decode cX10_inOrder 121 = .ok (.iload 6, 2) := by decide +kernel
theorem dX10_inOrder_123 : decode cX10_inOrder 123 = .ok (.baload, 1) := by decide +kernel
theorem dX10_inOrder_124 : decode cX10_inOrder 124 = .ok (.ifCond .eq 24, 3) := by decide +kernel
theorem dX10_inOrder_127 : decode cX10_inOrder 127 = .ok (.iload 7, 2) := by decide +kernel
theorem dX10_inOrder_129 : decode cX10_inOrder 129 = .ok (.ifCond .gt 15, 3) := by decide +kernel
theorem dX10_inOrder_132 : decode cX10_inOrder 132 = .ok (.iload 7, 2) := by decide +kernel
theorem dX10_inOrder_134 : decode cX10_inOrder 134 = .ok (.ifCond .ne 14, 3) := by decide +kernel
theorem dX10_inOrder_137 : decode cX10_inOrder 137 = .ok (.iload 6, 2) := by decide +kernel
theorem dX10_inOrder_139 : decode cX10_inOrder 139 = .ok (.iload 4, 2) := by decide +kernel
theorem dX10_inOrder_141 : decode cX10_inOrder 141 = .ok (.if_icmp .ge 7, 3) := by decide +kernel
theorem dX10_inOrder_144 : decode cX10_inOrder 144 = .ok (.iconst 1, 1) := by decide +kernel
theorem dX10_inOrder_145 : decode cX10_inOrder 145 = .ok (.goto 4, 3) := by decide +kernel
theorem dX10_inOrder_148 : decode cX10_inOrder 148 = .ok (.iconst 0, 1) := by decide +kernel
theorem dX10_inOrder_149 : decode cX10_inOrder 149 = .ok (.iadd, 1) := by decide +kernel
theorem dX10_inOrder_150 : decode cX10_inOrder 150 = .ok (.istore 5, 2) := by decide +kernel
theorem dX10_inOrder_152 : decode cX10_inOrder 152 = .ok (.iinc 6 1, 3) := by decide +kernel
theorem dX10_inOrder_155 : decode cX10_inOrder 155 = .ok (.goto (-96), 3) := by decide +kernel
theorem dX10_inOrder_158 : decode cX10_inOrder 158 = .ok (.aload_n 0, 1) := by decide +kernel
theorem dX10_inOrder_159 : decode cX10_inOrder 159 = .ok (.getfield 91, 3) := by decide +kernel
theorem dX10_inOrder_162 : decode cX10_inOrder 162 = .ok (.iload 4, 2) := by decide +kernel
theorem dX10_inOrder_164 : decode cX10_inOrder 164 = .ok (.baload, 1) := by decide +kernel
theorem dX10_inOrder_165 : decode cX10_inOrder 165 = .ok (.ifCond .eq 12, 3) := by decide +kernel
theorem dX10_inOrder_168 : decode cX10_inOrder 168 = .ok (.iload 5, 2) := by decide +kernel
theorem dX10_inOrder_170 : decode cX10_inOrder 170 = .ok (.iload_n 1, 1) := by decide +kernel
theorem dX10_inOrder_171 : decode cX10_inOrder 171 = .ok (.if_icmp .ne 6, 3) := by decide +kernel
theorem dX10_inOrder_174 : decode cX10_inOrder 174 = .ok (.iload 4, 2) := by decide +kernel
theorem dX10_inOrder_176 : decode cX10_inOrder 176 = .ok (.ireturn, 1) := by decide +kernel
theorem dX10_inOrder_177 : decode cX10_inOrder 177 = .ok (.iinc 4 1, 3) := by decide +kernel
theorem dX10_inOrder_180 : decode cX10_inOrder 180 = .ok (.goto (-134), 3) := by decide +kernel
theorem dX10_inOrder_183 : decode cX10_inOrder 183 = .ok (.iconst (-1), 1) := by decide +kernel
theorem dX10_inOrder_184 : decode cX10_inOrder 184 = .ok (.ireturn, 1) := by decide +kernel
theorem dX10_findBad_0 : decode cX10_findBad 0 = .ok (.iconst 0, 1) := by decide +kernel
theorem dX10_findBad_1 : decode cX10_findBad 1 = .ok (.istore_n 1, 1) := by decide +kernel
theorem dX10_findBad_2 : decode cX10_findBad 2 = .ok (.iload_n 1, 1) := by decide +kernel
theorem dX10_findBad_3 : decode cX10_findBad 3 = .ok (.bipush 100, 2) := by decide +kernel
theorem dX10_findBad_5 : decode cX10_findBad 5 = .ok (.if_icmp .ge 40, 3) := by decide +kernel
theorem dX10_findBad_8 : decode cX10_findBad 8 = .ok (.aload_n 0, 1) := by decide +kernel
theorem dX10_findBad_9 : decode cX10_findBad 9 = .ok (.getfield 88, 3) := by decide +kernel
theorem dX10_findBad_12 : decode cX10_findBad 12 = .ok (.iload_n 1, 1) := by decide +kernel
theorem dX10_findBad_13 : decode cX10_findBad 13 = .ok (.aload_n 0, 1) := by decide +kernel
theorem dX10_findBad_14 : decode cX10_findBad 14 = .ok (.iload_n 1, 1) := by decide +kernel
theorem dX10_findBad_15 : decode cX10_findBad 15 = .ok (.invokevirtual 419, 3) := by decide +kernel
theorem dX10_findBad_18 : decode cX10_findBad 18 = .ok (.iastore, 1) := by decide +kernel
theorem dX10_findBad_19 : decode cX10_findBad 19 = .ok (.aload_n 0, 1) := by decide +kernel
theorem dX10_findBad_20 : decode cX10_findBad 20 = .ok (.getfield 91, 3) := by decide +kernel
theorem dX10_findBad_23 : decode cX10_findBad 23 = .ok (.iload_n 1, 1) := by decide +kernel
theorem dX10_findBad_24 : decode cX10_findBad 24 = .ok (.aload_n 0, 1) := by decide +kernel
theorem dX10_findBad_25 : decode cX10_findBad 25 = .ok (.getfield 88, 3) := by decide +kernel
theorem dX10_findBad_28 : decode cX10_findBad 28 = .ok (.iload_n 1, 1) := by decide +kernel
theorem dX10_findBad_29 : decode cX10_findBad 29 = .ok (.iaload, 1) := by decide +kernel
theorem dX10_findBad_30 : decode cX10_findBad 30 = .ok (.ifCond .le 7, 3) := by decide +kernel
theorem dX10_findBad_33 : decode cX10_findBad 33 = .ok (.iconst 1, 1) := by decide +kernel
theorem dX10_findBad_34 : decode cX10_findBad 34 = .ok (.goto 4, 3) := by decide +kernel
theorem dX10_findBad_37 : decode cX10_findBad 37 = .ok (.iconst 0, 1) := by decide +kernel
theorem dX10_findBad_38 : decode cX10_findBad 38 = .ok (.bastore, 1) := by decide +kernel
theorem dX10_findBad_39 : decode cX10_findBad 39 = .ok (.iinc 1 1, 3) := by decide +kernel
theorem dX10_findBad_42 : decode cX10_findBad 42 = .ok (.goto (-40), 3) := by decide +kernel
theorem dX10_findBad_45 : decode cX10_findBad 45 = .ok (.return_, 1) := by decide +kernel
theorem dX10_bad_0 : decode cX10_bad 0 = .ok (.aload_n 0, 1) := by decide +kernel
theorem dX10_bad_1 : decode cX10_bad 1 = .ok (.iconst 0, 1) := by decide +kernel
theorem dX10_bad_2 : decode cX10_bad 2 = .ok (.putfield 103, 3) := by decide +kernel
theorem dX10_bad_5 : decode cX10_bad 5 = .ok (.aload_n 0, 1) := by decide +kernel
theorem dX10_bad_6 : decode cX10_bad 6 = .ok (.invokevirtual 405, 3) := by decide +kernel
theorem dX10_bad_9 : decode cX10_bad 9 = .ok (.aload_n 0, 1) := by decide +kernel
theorem dX10_bad_10 : decode cX10_bad 10 = .ok (.invokevirtual 425, 3) := by decide +kernel
theorem dX10_bad_13 : decode cX10_bad 13 = .ok (.iload_n 1, 1) := by decide +kernel
theorem dX10_bad_14 : decode cX10_bad 14 = .ok (.iconst (-1), 1) := by decide +kernel
theorem dX10_bad_15 : decode cX10_bad 15 = .ok (.if_icmp .ge 7, 3) := by decide +kernel
theorem dX10_bad_18 : decode cX10_bad 18 = .ok (.iconst (-1), 1) := by decide +kernel
theorem dX10_bad_19 : decode cX10_bad 19 = .ok (.goto 9, 3) := by decide +kernel
theorem dX10_bad_22 : decode cX10_bad 22 = .ok (.aload_n 0, 1) := by decide +kernel
theorem dX10_bad_23 : decode cX10_bad 23 = .ok (.iload_n 1, 1) := by decide +kernel
theorem dX10_bad_24 : decode cX10_bad 24 = .ok (.iconst 1, 1) := by decide +kernel
theorem dX10_bad_25 : decode cX10_bad 25 = .ok (.invokevirtual 428, 3) := by decide +kernel
theorem dX10_bad_28 : decode cX10_bad 28 = .ok (.ireturn, 1) := by decide +kernel
theorem dX10_seat_0 : decode cX10_seat 0 = .ok (.aload_n 0, 1) := by decide +kernel
theorem dX10_seat_1 : decode cX10_seat 1 = .ok (.iconst 0, 1) := by decide +kernel
theorem dX10_seat_2 : decode cX10_seat 2 = .ok (.putfield 103, 3) := by decide +kernel
theorem dX10_seat_5 : decode cX10_seat 5 = .ok (.iload_n 1, 1) := by decide +kernel
theorem dX10_seat_6 : decode cX10_seat 6 = .ok (.invokestatic 173, 3) := by decide +kernel
theorem dX10_seat_9 : decode cX10_seat 9 = .ok (.ifCond .eq 7, 3) := by decide +kernel
theorem dX10_seat_12 : decode cX10_seat 12 = .ok (.iload_n 2, 1) := by decide +kernel
theorem dX10_seat_13 : decode cX10_seat 13 = .ok (.ifCond .ge 5, 3) := by decide +kernel
theorem dX10_seat_16 : decode cX10_seat 16 = .ok (.iconst (-1), 1) := by decide +kernel
theorem dX10_seat_17 : decode cX10_seat 17 = .ok (.ireturn, 1) := by decide +kernel
theorem dX10_seat_18 : decode cX10_seat 18 = .ok (.aload_n 0, 1) := by decide +kernel
theorem dX10_seat_19 : decode cX10_seat 19 = .ok (.invokevirtual 405, 3) := by decide +kernel
theorem dX10_seat_22 : decode cX10_seat 22 = .ok (.iconst 0, 1) := by decide +kernel
theorem dX10_seat_23 : decode cX10_seat 23 = .ok (.istore_n 3, 1) := by decide +kernel
theorem dX10_seat_24 : decode cX10_seat 24 = .ok (.iload_n 3, 1) := by decide +kernel
theorem dX10_seat_25 : decode cX10_seat 25 = .ok (.bipush 100, 2) := by decide +kernel
theorem dX10_seat_27 : decode cX10_seat 27 = .ok (.if_icmp .ge 68, 3) := by decide +kernel
theorem dX10_seat_30 : decode cX10_seat 30 = .ok (.aload_n 0, 1) := by decide +kernel
theorem dX10_seat_31 : decode cX10_seat 31 = .ok (.getfield 91, 3) := by decide +kernel
theorem dX10_seat_34 : decode cX10_seat 34 = .ok (.iload_n 3, 1) := by decide +kernel
theorem dX10_seat_35 : decode cX10_seat 35 = .ok (.aload_n 0, 1) := by decide +kernel
theorem dX10_seat_36 : decode cX10_seat 36 = .ok (.getfield 73, 3) := by decide +kernel
theorem dX10_seat_39 : decode cX10_seat 39 = .ok (.iload_n 3, 1) := by decide +kernel
theorem dX10_seat_40 : decode cX10_seat 40 = .ok (.iaload, 1) := by decide +kernel
theorem dX10_seat_41 : decode cX10_seat 41 = .ok (.iconst (-1), 1) := by decide +kernel
theorem dX10_seat_42 : decode cX10_seat 42 = .ok (.if_icmp .ne 16, 3) := by decide +kernel
theorem dX10_seat_45 : decode cX10_seat 45 = .ok (.aload_n 0, 1) := by decide +kernel
theorem dX10_seat_46 : decode cX10_seat 46 = .ok (.getfield 82, 3) := by decide +kernel
theorem dX10_seat_49 : decode cX10_seat 49 = .ok (.iload_n 3, 1) := by decide +kernel
theorem dX10_seat_50 : decode cX10_seat 50 = .ok (.iaload, 1) := by decide +kernel
theorem dX10_seat_51 : decode cX10_seat 51 = .ok (.ifCond .ne 7, 3) := by decide +kernel
theorem dX10_seat_54 : decode cX10_seat 54 = .ok (.iconst 1, 1) := by decide +kernel
theorem dX10_seat_55 : decode cX10_seat 55 = .ok (.goto 4, 3) := by decide +kernel
theorem dX10_seat_58 : decode cX10_seat 58 = .ok (.iconst 0, 1) := by decide +kernel
theorem dX10_seat_59 : decode cX10_seat 59 = .ok (.bastore, 1) := by decide +kernel
theorem dX10_seat_60 : decode cX10_seat 60 = .ok (.aload_n 0, 1) := by decide +kernel
theorem dX10_seat_61 : decode cX10_seat 61 = .ok (.getfield 88, 3) := by decide +kernel
theorem dX10_seat_64 : decode cX10_seat 64 = .ok (.iload_n 3, 1) := by decide +kernel
theorem dX10_seat_65 : decode cX10_seat 65 = .ok (.aload_n 0, 1) := by decide +kernel
theorem dX10_seat_66 : decode cX10_seat 66 = .ok (.getfield 91, 3) := by decide +kernel
theorem dX10_seat_69 : decode cX10_seat 69 = .ok (.iload_n 3, 1) := by decide +kernel
theorem dX10_seat_70 : decode cX10_seat 70 = .ok (.baload, 1) := by decide +kernel
theorem dX10_seat_71 : decode cX10_seat 71 = .ok (.ifCond .eq 16, 3) := by decide +kernel
theorem dX10_seat_74 : decode cX10_seat 74 = .ok (.aload_n 0, 1) := by decide +kernel
theorem dX10_seat_75 : decode cX10_seat 75 = .ok (.iload_n 3, 1) := by decide +kernel
theorem dX10_seat_76 : decode cX10_seat 76 = .ok (.aload_n 0, 1) := by decide +kernel
theorem dX10_seat_77 : decode cX10_seat 77 = .ok (.iload_n 1, 1) := by decide +kernel
theorem dX10_seat_78 : decode cX10_seat 78 = .ok (.invokevirtual 413, 3) := by decide +kernel
theorem dX10_seat_81 : decode cX10_seat 81 = .ok (.invokevirtual 416, 3) := by decide +kernel
theorem dX10_seat_84 : decode cX10_seat 84 = .ok (.goto 4, 3) := by decide +kernel
theorem dX10_seat_87 : decode cX10_seat 87 = .ok (.iconst 0, 1) := by decide +kernel
theorem dX10_seat_88 : decode cX10_seat 88 = .ok (.iastore, 1) := by decide +kernel
theorem dX10_seat_89 : decode cX10_seat 89 = .ok (.iinc 3 1, 3) := by decide +kernel
theorem dX10_seat_92 : decode cX10_seat 92 = .ok (.goto (-68), 3) := by decide +kernel
theorem dX10_seat_95 : decode cX10_seat 95 = .ok (.aload_n 0, 1) := by decide +kernel
theorem dX10_seat_96 : decode cX10_seat 96 = .ok (.iload_n 2, 1) := by decide +kernel
theorem dX10_seat_97 : decode cX10_seat 97 = .ok (.iconst 0, 1) := by decide +kernel
theorem dX10_seat_98 : decode cX10_seat 98 = .ok (.invokevirtual 428, 3) := by decide +kernel
theorem dX10_seat_101 : decode cX10_seat 101 = .ok (.ireturn, 1) := by decide +kernel
theorem dX10_does_0 : decode cX10_does 0 = .ok (.aload_n 0, 1) := by decide +kernel
theorem dX10_does_1 : decode cX10_does 1 = .ok (.iconst 0, 1) := by decide +kernel
theorem dX10_does_2 : decode cX10_does 2 = .ok (.putfield 103, 3) := by decide +kernel
theorem dX10_does_5 : decode cX10_does 5 = .ok (.aload_n 0, 1) := by decide +kernel
theorem dX10_does_6 : decode cX10_does 6 = .ok (.iload_n 1, 1) := by decide +kernel
theorem dX10_does_7 : decode cX10_does 7 = .ok (.invokevirtual 165, 3) := by decide +kernel
theorem dX10_does_10 : decode cX10_does 10 = .ok (.ifCond .ne 7, 3) := by decide +kernel
theorem dX10_does_13 : decode cX10_does 13 = .ok (.ldc_w 432, 3) := by decide +kernel
theorem dX10_does_16 : decode cX10_does 16 = .ok (.ireturn, 1) := by decide +kernel
theorem dX10_does_17 : decode cX10_does 17 = .ok (.aload_n 0, 1) := by decide +kernel
theorem dX10_does_18 : decode cX10_does 18 = .ok (.invokevirtual 405, 3) := by decide +kernel
theorem dX10_does_21 : decode cX10_does 21 = .ok (.aload_n 0, 1) := by decide +kernel
theorem dX10_does_22 : decode cX10_does 22 = .ok (.invokevirtual 422, 3) := by decide +kernel
theorem dX10_does_25 : decode cX10_does 25 = .ok (.istore_n 2, 1) := by decide +kernel
theorem dX10_does_26 : decode cX10_does 26 = .ok (.aload_n 0, 1) := by decide +kernel
theorem dX10_does_27 : decode cX10_does 27 = .ok (.bipush 63, 2) := by decide +kernel
theorem dX10_does_29 : decode cX10_does 29 = .ok (.iconst 1, 1) := by decide +kernel
theorem dX10_does_30 : decode cX10_does 30 = .ok (.iload_n 1, 1) := by decide +kernel
theorem dX10_does_31 : decode cX10_does 31 = .ok (.ishl, 1) := by decide +kernel
theorem dX10_does_32 : decode cX10_does 32 = .ok (.iconst (-1), 1) := by decide +kernel
theorem dX10_does_33 : decode cX10_does 33 = .ok (.ixor, 1) := by decide +kernel
theorem dX10_does_34 : decode cX10_does 34 = .ok (.iand, 1) := by decide +kernel
theorem dX10_does_35 : decode cX10_does 35 = .ok (.invokevirtual 357, 3) := by decide +kernel
theorem dX10_does_38 : decode cX10_does 38 = .ok (.iload_n 2, 1) := by decide +kernel
theorem dX10_does_39 : decode cX10_does 39 = .ok (.aload_n 0, 1) := by decide +kernel
theorem dX10_does_40 : decode cX10_does 40 = .ok (.invokevirtual 422, 3) := by decide +kernel
theorem dX10_does_43 : decode cX10_does 43 = .ok (.isub, 1) := by decide +kernel
theorem dX10_does_44 : decode cX10_does 44 = .ok (.ireturn, 1) := by decide +kernel
theorem dX10_orders_0 : decode cX10_orders 0 = .ok (.iconst 1, 1) := by decide +kernel
theorem dX10_orders_1 : decode cX10_orders 1 = .ok (.istore_n 1, 1) := by decide +kernel
theorem dX10_orders_2 : decode cX10_orders 2 = .ok (.iconst 2, 1) := by decide +kernel
theorem dX10_orders_3 : decode cX10_orders 3 = .ok (.istore_n 2, 1) := by decide +kernel
theorem dX10_orders_4 : decode cX10_orders 4 = .ok (.iload_n 2, 1) := by decide +kernel
theorem dX10_orders_5 : decode cX10_orders 5 = .ok (.iload_n 0, 1) := by decide +kernel
theorem dX10_orders_6 : decode cX10_orders 6 = .ok (.if_icmp .gt 13, 3) := by decide +kernel
theorem dX10_orders_9 : decode cX10_orders 9 = .ok (.iload_n 1, 1) := by decide +kernel
theorem dX10_orders_10 : decode cX10_orders 10 = .ok (.iload_n 2, 1) := by decide +kernel
theorem dX10_orders_11 : decode cX10_orders 11 = .ok (.imul, 1) := by decide +kernel
theorem dX10_orders_12 : decode cX10_orders 12 = .ok (.istore_n 1, 1) := by decide +kernel
theorem dX10_orders_13 : decode cX10_orders 13 = .ok (.iinc 2 1, 3) := by decide +kernel
theorem dX10_orders_16 : decode cX10_orders 16 = .ok (.goto (-12), 3) := by decide +kernel
theorem dX10_orders_19 : decode cX10_orders 19 = .ok (.iload_n 1, 1) := by decide +kernel
theorem dX10_orders_20 : decode cX10_orders 20 = .ok (.ireturn, 1) := by decide +kernel
theorem dX10_share_0 : decode cX10_share 0 = .ok (.aload_n 0, 1) := by decide +kernel
theorem dX10_share_1 : decode cX10_share 1 = .ok (.iconst 0, 1) := by decide +kernel
theorem dX10_share_2 : decode cX10_share 2 = .ok (.putfield 103, 3) := by decide +kernel
theorem dX10_share_5 : decode cX10_share 5 = .ok (.aload_n 0, 1) := by decide +kernel
theorem dX10_share_6 : decode cX10_share 6 = .ok (.iload_n 1, 1) := by decide +kernel
theorem dX10_share_7 : decode cX10_share 7 = .ok (.invokevirtual 165, 3) := by decide +kernel
theorem dX10_share_10 : decode cX10_share 10 = .ok (.ifCond .ne 7, 3) := by decide +kernel
theorem dX10_share_13 : decode cX10_share 13 = .ok (.ldc2_w 433, 3) := by decide +kernel
theorem dX10_share_16 : decode cX10_share 16 = .ok (.lreturn, 1) := by decide +kernel
theorem dX10_share_17 : decode cX10_share 17 = .ok (.aload_n 0, 1) := by decide +kernel
theorem dX10_share_18 : decode cX10_share 18 = .ok (.getfield 13, 3) := by decide +kernel
theorem dX10_share_21 : decode cX10_share 21 = .ok (.iconst 0, 1) := by decide +kernel
theorem dX10_share_22 : decode cX10_share 22 = .ok (.iaload, 1) := by decide +kernel
theorem dX10_share_23 : decode cX10_share 23 = .ok (.istore_n 2, 1) := by decide +kernel
theorem dX10_share_24 : decode cX10_share 24 = .ok (.iconst 0, 1) := by decide +kernel
theorem dX10_share_25 : decode cX10_share 25 = .ok (.istore_n 3, 1) := by decide +kernel
theorem dX10_share_26 : decode cX10_share 26 = .ok (.iload_n 3, 1) := by decide +kernel
theorem dX10_share_27 : decode cX10_share 27 = .ok (.iconst 1, 1) := by decide +kernel
theorem dX10_share_28 : decode cX10_share 28 = .ok (.iload_n 2, 1) := by decide +kernel
theorem dX10_share_29 : decode cX10_share 29 = .ok (.ishl, 1) := by decide +kernel
theorem dX10_share_30 : decode cX10_share 30 = .ok (.if_icmp .ge 24, 3) := by decide +kernel
theorem dX10_share_33 : decode cX10_share 33 = .ok (.aload_n 0, 1) := by decide +kernel
theorem dX10_share_34 : decode cX10_share 34 = .ok (.iload_n 3, 1) := by decide +kernel
theorem dX10_share_35 : decode cX10_share 35 = .ok (.invokevirtual 357, 3) := by decide +kernel
theorem dX10_share_38 : decode cX10_share 38 = .ok (.aload_n 0, 1) := by decide +kernel
theorem dX10_share_39 : decode cX10_share 39 = .ok (.getfield 94, 3) := by decide +kernel
theorem dX10_share_42 : decode cX10_share 42 = .ok (.iload_n 3, 1) := by decide +kernel
theorem dX10_share_43 : decode cX10_share 43 = .ok (.aload_n 0, 1) := by decide +kernel
theorem dX10_share_44 : decode cX10_share 44 = .ok (.invokevirtual 422, 3) := by decide +kernel
theorem dX10_share_47 : decode cX10_share 47 = .ok (.iastore, 1) := by decide +kernel
theorem dX10_share_48 : decode cX10_share 48 = .ok (.iinc 3 1, 3) := by decide +kernel
theorem dX10_share_51 : decode cX10_share 51 = .ok (.goto (-25), 3) := by decide +kernel
theorem dX10_share_54 : decode cX10_share 54 = .ok (.lconst 0, 1) := by decide +kernel
theorem dX10_share_55 : decode cX10_share 55 = .ok (.lstore_n 3, 1) := by decide +kernel
theorem dX10_share_56 : decode cX10_share 56 = .ok (.iconst 0, 1) := by decide +kernel
theorem dX10_share_57 : decode cX10_share 57 = .ok (.istore 5, 2) := by decide +kernel
theorem dX10_share_59 : decode cX10_share 59 = .ok (.iload 5, 2) := by decide +kernel
theorem dX10_share_61 : decode cX10_share 61 = .ok (.iconst 1, 1) := by decide +kernel
theorem dX10_share_62 : decode cX10_share 62 = .ok (.iload_n 2, 1) := by decide +kernel
theorem dX10_share_63 : decode cX10_share 63 = .ok (.ishl, 1) := by decide +kernel
theorem dX10_share_64 : decode cX10_share 64 = .ok (.if_icmp .ge 70, 3) := by decide +kernel
theorem dX10_share_67 : decode cX10_share 67 = .ok (.iload 5, 2) := by decide +kernel
theorem dX10_share_69 : decode cX10_share 69 = .ok (.iload_n 1, 1) := by decide +kernel
theorem dX10_share_70 : decode cX10_share 70 = .ok (.invokestatic 354, 3) := by decide +kernel
theorem dX10_share_73 : decode cX10_share 73 = .ok (.ifCond .ne 55, 3) := by decide +kernel
theorem dX10_share_76 : decode cX10_share 76 = .ok (.iload 5, 2) := by decide +kernel
theorem dX10_share_78 : decode cX10_share 78 = .ok (.invokestatic 435, 3) := by decide +kernel
theorem dX10_share_81 : decode cX10_share 81 = .ok (.istore 6, 2) := by decide +kernel
theorem dX10_share_83 : decode cX10_share 83 = .ok (.iload 6, 2) := by decide +kernel
theorem dX10_share_85 : decode cX10_share 85 = .ok (.invokestatic 438, 3) := by decide +kernel
theorem dX10_share_88 : decode cX10_share 88 = .ok (.i2l, 1) := by decide +kernel
theorem dX10_share_89 : decode cX10_share 89 = .ok (.iload_n 2, 1) := by decide +kernel
theorem dX10_share_90 : decode cX10_share 90 = .ok (.iload 6, 2) := by decide +kernel
theorem dX10_share_92 : decode cX10_share 92 = .ok (.isub, 1) := by decide +kernel
theorem dX10_share_93 : decode cX10_share 93 = .ok (.iconst 1, 1) := by decide +kernel
theorem dX10_share_94 : decode cX10_share 94 = .ok (.isub, 1) := by decide +kernel
theorem dX10_share_95 : decode cX10_share 95 = .ok (.invokestatic 438, 3) := by decide +kernel
theorem dX10_share_98 : decode cX10_share 98 = .ok (.i2l, 1) := by decide +kernel
theorem dX10_share_99 : decode cX10_share 99 = .ok (.lmul, 1) := by decide +kernel
theorem dX10_share_100 : decode cX10_share 100 = .ok (.lstore 7, 2) := by decide +kernel
theorem dX10_share_102 : decode cX10_share 102 = .ok (.lload_n 3, 1) := by decide +kernel
theorem dX10_share_103 : decode cX10_share 103 = .ok (.lload 7, 2) := by decide +kernel
theorem dX10_share_105 : decode cX10_share 105 = .ok (.aload_n 0, 1) := by decide +kernel
theorem dX10_share_106 : decode cX10_share 106 = .ok (.getfield 94, 3) := by decide +kernel
theorem dX10_share_109 : decode cX10_share 109 = .ok (.iload 5, 2) := by decide +kernel
theorem dX10_share_111 : decode cX10_share 111 = .ok (.iconst 1, 1) := by decide +kernel
theorem dX10_share_112 : decode cX10_share 112 = .ok (.iload_n 1, 1) := by decide +kernel
theorem dX10_share_113 : decode cX10_share 113 = .ok (.ishl, 1) := by decide +kernel
theorem dX10_share_114 : decode cX10_share 114 = .ok (.ior, 1) := by decide +kernel
theorem dX10_share_115 : decode cX10_share 115 = .ok (.iaload, 1) := by decide +kernel
theorem dX10_share_116 : decode cX10_share 116 = .ok (.aload_n 0, 1) := by decide +kernel
theorem dX10_share_117 : decode cX10_share 117 = .ok (.getfield 94, 3) := by decide +kernel
theorem dX10_share_120 : decode cX10_share 120 = .ok (.iload 5, 2) := by decide +kernel
theorem dX10_share_122 : decode cX10_share 122 = .ok (.iaload, 1) := by decide +kernel
theorem dX10_share_123 : decode cX10_share 123 = .ok (.isub, 1) := by decide +kernel
theorem dX10_share_124 : decode cX10_share 124 = .ok (.i2l, 1) := by decide +kernel
theorem dX10_share_125 : decode cX10_share 125 = .ok (.lmul, 1) := by decide +kernel
theorem dX10_share_126 : decode cX10_share 126 = .ok (.ladd, 1) := by decide +kernel
theorem dX10_share_127 : decode cX10_share 127 = .ok (.lstore_n 3, 1) := by decide +kernel
theorem dX10_share_128 : decode cX10_share 128 = .ok (.iinc 5 1, 3) := by decide +kernel
theorem dX10_share_131 : decode cX10_share 131 = .ok (.goto (-72), 3) := by decide +kernel
theorem dX10_share_134 : decode cX10_share 134 = .ok (.lload_n 3, 1) := by decide +kernel
theorem dX10_share_135 : decode cX10_share 135 = .ok (.sipush 720, 3) := by decide +kernel
theorem dX10_share_138 : decode cX10_share 138 = .ok (.iload_n 2, 1) := by decide +kernel
theorem dX10_share_139 : decode cX10_share 139 = .ok (.invokestatic 438, 3) := by decide +kernel
theorem dX10_share_142 : decode cX10_share 142 = .ok (.idiv, 1) := by decide +kernel
theorem dX10_share_143 : decode cX10_share 143 = .ok (.i2l, 1) := by decide +kernel
theorem dX10_share_144 : decode cX10_share 144 = .ok (.lmul, 1) := by decide +kernel
theorem dX10_share_145 : decode cX10_share 145 = .ok (.lreturn, 1) := by decide +kernel
theorem dX10_buildPaper_0 : decode cX10_buildPaper 0 = .ok (.aload_n 0, 1) := by decide +kernel
theorem dX10_buildPaper_1 : decode cX10_buildPaper 1 = .ok (.invokevirtual 405, 3) := by decide +kernel
theorem dX10_buildPaper_4 : decode cX10_buildPaper 4 = .ok (.aload_n 0, 1) := by decide +kernel
theorem dX10_buildPaper_5 : decode cX10_buildPaper 5 = .ok (.getfield 85, 3) := by decide +kernel
theorem dX10_buildPaper_8 : decode cX10_buildPaper 8 = .ok (.bipush 6, 2) := by decide +kernel
theorem dX10_buildPaper_10 : decode cX10_buildPaper 10 = .ok (.iload 5, 2) := by decide +kernel
theorem dX10_buildPaper_12 : decode cX10_buildPaper 12 = .ok (.iastore, 1) := by decide +kernel
theorem dX10_buildPaper_13 : decode cX10_buildPaper 13 = .ok (.iload_n 2, 1) := by decide +kernel
theorem dX10_buildPaper_14 : decode cX10_buildPaper 14 = .ok (.istore 6, 2) := by decide +kernel
theorem dX10_buildPaper_16 : decode cX10_buildPaper 16 = .ok (.iload 6, 2) := by decide +kernel
theorem dX10_buildPaper_18 : decode cX10_buildPaper 18 = .ok (.iload_n 2, 1) := by decide +kernel
theorem dX10_buildPaper_19 : decode cX10_buildPaper 19 = .ok (.iload 4, 2) := by decide +kernel
theorem dX10_buildPaper_21 : decode cX10_buildPaper 21 = .ok (.iadd, 1) := by decide +kernel
theorem dX10_buildPaper_22 : decode cX10_buildPaper 22 = .ok (.if_icmp .ge 69, 3) := by decide +kernel
theorem dX10_buildPaper_25 : decode cX10_buildPaper 25 = .ok (.iload_n 1, 1) := by decide +kernel
theorem dX10_buildPaper_26 : decode cX10_buildPaper 26 = .ok (.istore 7, 2) := by decide +kernel
theorem dX10_buildPaper_28 : decode cX10_buildPaper 28 = .ok (.iload 7, 2) := by decide +kernel
theorem dX10_buildPaper_30 : decode cX10_buildPaper 30 = .ok (.iload_n 1, 1) := by decide +kernel
theorem dX10_buildPaper_31 : decode cX10_buildPaper 31 = .ok (.iload_n 3, 1) := by decide +kernel
theorem dX10_buildPaper_32 : decode cX10_buildPaper 32 = .ok (.iadd, 1) := by decide +kernel
theorem dX10_buildPaper_33 : decode cX10_buildPaper 33 = .ok (.if_icmp .ge 52, 3) := by decide +kernel
theorem dX10_buildPaper_36 : decode cX10_buildPaper 36 = .ok (.bipush 10, 2) := by decide +kernel
theorem dX10_buildPaper_38 : decode cX10_buildPaper 38 = .ok (.iload 6, 2) := by decide +kernel
theorem dX10_buildPaper_40 : decode cX10_buildPaper 40 = .ok (.imul, 1) := by decide +kernel
theorem dX10_buildPaper_41 : decode cX10_buildPaper 41 = .ok (.iload 7, 2) := by decide +kernel
theorem dX10_buildPaper_43 : decode cX10_buildPaper 43 = .ok (.iadd, 1) := by decide +kernel
theorem dX10_buildPaper_44 : decode cX10_buildPaper 44 = .ok (.istore 8, 2) := by decide +kernel
theorem dX10_buildPaper_46 : decode cX10_buildPaper 46 = .ok (.aload_n 0, 1) := by decide +kernel
theorem dX10_buildPaper_47 : decode cX10_buildPaper 47 = .ok (.getfield 73, 3) := by decide +kernel
theorem dX10_buildPaper_50 : decode cX10_buildPaper 50 = .ok (.iload 8, 2) := by decide +kernel
theorem dX10_buildPaper_52 : decode cX10_buildPaper 52 = .ok (.bipush 6, 2) := by decide +kernel
theorem dX10_buildPaper_54 : decode cX10_buildPaper 54 = .ok (.iastore, 1) := by decide +kernel
theorem dX10_buildPaper_55 : decode cX10_buildPaper 55 = .ok (.aload_n 0, 1) := by decide +kernel
theorem dX10_buildPaper_56 : decode cX10_buildPaper 56 = .ok (.getfield 76, 3) := by decide +kernel
theorem dX10_buildPaper_59 : decode cX10_buildPaper 59 = .ok (.iload 8, 2) := by decide +kernel
theorem dX10_buildPaper_61 : decode cX10_buildPaper 61 = .ok (.iconst 0, 1) := by decide +kernel
theorem dX10_buildPaper_62 : decode cX10_buildPaper 62 = .ok (.iastore, 1) := by decide +kernel
theorem dX10_buildPaper_63 : decode cX10_buildPaper 63 = .ok (.aload_n 0, 1) := by decide +kernel
theorem dX10_buildPaper_64 : decode cX10_buildPaper 64 = .ok (.getfield 79, 3) := by decide +kernel
theorem dX10_buildPaper_67 : decode cX10_buildPaper 67 = .ok (.iload 8, 2) := by decide +kernel
theorem dX10_buildPaper_69 : decode cX10_buildPaper 69 = .ok (.iconst 0, 1) := by decide +kernel
theorem dX10_buildPaper_70 : decode cX10_buildPaper 70 = .ok (.iastore, 1) := by decide +kernel
theorem dX10_buildPaper_71 : decode cX10_buildPaper 71 = .ok (.aload_n 0, 1) := by decide +kernel
theorem dX10_buildPaper_72 : decode cX10_buildPaper 72 = .ok (.getfield 82, 3) := by decide +kernel
theorem dX10_buildPaper_75 : decode cX10_buildPaper 75 = .ok (.iload 8, 2) := by decide +kernel
theorem dX10_buildPaper_77 : decode cX10_buildPaper 77 = .ok (.iconst 0, 1) := by decide +kernel
theorem dX10_buildPaper_78 : decode cX10_buildPaper 78 = .ok (.iastore, 1) := by decide +kernel
theorem dX10_buildPaper_79 : decode cX10_buildPaper 79 = .ok (.iinc 7 1, 3) := by decide +kernel
theorem dX10_buildPaper_82 : decode cX10_buildPaper 82 = .ok (.goto (-54), 3) := by decide +kernel
theorem dX10_buildPaper_85 : decode cX10_buildPaper 85 = .ok (.iinc 6 1, 3) := by decide +kernel
theorem dX10_buildPaper_88 : decode cX10_buildPaper 88 = .ok (.goto (-72), 3) := by decide +kernel
theorem dX10_buildPaper_91 : decode cX10_buildPaper 91 = .ok (.return_, 1) := by decide +kernel
theorem dX10_canBuild_0 : decode cX10_canBuild 0 = .ok (.iload_n 1, 1) := by decide +kernel
theorem dX10_canBuild_1 : decode cX10_canBuild 1 = .ok (.iload_n 2, 1) := by decide +kernel
theorem dX10_canBuild_2 : decode cX10_canBuild 2 = .ok (.iload_n 3, 1) := by decide +kernel
theorem dX10_canBuild_3 : decode cX10_canBuild 3 = .ok (.iload 4, 2) := by decide +kernel
theorem dX10_canBuild_5 : decode cX10_canBuild 5 = .ok (.iload 5, 2) := by decide +kernel
theorem dX10_canBuild_7 : decode cX10_canBuild 7 = .ok (.invokestatic 157, 3) := by decide +kernel
theorem dX10_canBuild_10 : decode cX10_canBuild 10 = .ok (.ifCond .eq 30, 3) := by decide +kernel
theorem dX10_canBuild_13 : decode cX10_canBuild 13 = .ok (.aload_n 0, 1) := by decide +kernel
theorem dX10_canBuild_14 : decode cX10_canBuild 14 = .ok (.getfield 13, 3) := by decide +kernel
theorem dX10_canBuild_17 : decode cX10_canBuild 17 = .ok (.iconst 0, 1) := by decide +kernel
theorem dX10_canBuild_18 : decode cX10_canBuild 18 = .ok (.iaload, 1) := by decide +kernel
theorem dX10_canBuild_19 : decode cX10_canBuild 19 = .ok (.bipush 6, 2) := by decide +kernel
theorem dX10_canBuild_21 : decode cX10_canBuild 21 = .ok (.if_icmp .ge 19, 3) := by decide +kernel
theorem dX10_canBuild_24 : decode cX10_canBuild 24 = .ok (.aload_n 0, 1) := by decide +kernel
theorem dX10_canBuild_25 : decode cX10_canBuild 25 = .ok (.iload_n 1, 1) := by decide +kernel
theorem dX10_canBuild_26 : decode cX10_canBuild 26 = .ok (.iload_n 2, 1) := by decide +kernel
theorem dX10_canBuild_27 : decode cX10_canBuild 27 = .ok (.iload_n 3, 1) := by decide +kernel
theorem dX10_canBuild_28 : decode cX10_canBuild 28 = .ok (.iload 4, 2) := by decide +kernel
theorem dX10_canBuild_30 : decode cX10_canBuild 30 = .ok (.invokevirtual 161, 3) := by decide +kernel
theorem dX10_canBuild_33 : decode cX10_canBuild 33 = .ok (.ifCond .eq 7, 3) := by decide +kernel
theorem dX10_canBuild_36 : decode cX10_canBuild 36 = .ok (.iconst 1, 1) := by decide +kernel
theorem dX10_canBuild_37 : decode cX10_canBuild 37 = .ok (.goto 4, 3) := by decide +kernel
theorem dX10_canBuild_40 : decode cX10_canBuild 40 = .ok (.iconst 0, 1) := by decide +kernel
theorem dX10_canBuild_41 : decode cX10_canBuild 41 = .ok (.ireturn, 1) := by decide +kernel
theorem dX10_ahead_0 : decode cX10_ahead 0 = .ok (.aload_n 0, 1) := by decide +kernel
theorem dX10_ahead_1 : decode cX10_ahead 1 = .ok (.iconst 0, 1) := by decide +kernel
theorem dX10_ahead_2 : decode cX10_ahead 2 = .ok (.putfield 103, 3) := by decide +kernel
theorem dX10_ahead_5 : decode cX10_ahead 5 = .ok (.aload_n 0, 1) := by decide +kernel
theorem dX10_ahead_6 : decode cX10_ahead 6 = .ok (.iload_n 1, 1) := by decide +kernel
theorem dX10_ahead_7 : decode cX10_ahead 7 = .ok (.iload_n 2, 1) := by decide +kernel
theorem dX10_ahead_8 : decode cX10_ahead 8 = .ok (.iload_n 3, 1) := by decide +kernel
theorem dX10_ahead_9 : decode cX10_ahead 9 = .ok (.iload 4, 2) := by decide +kernel
theorem dX10_ahead_11 : decode cX10_ahead 11 = .ok (.iload 5, 2) := by decide +kernel
theorem dX10_ahead_13 : decode cX10_ahead 13 = .ok (.invokevirtual 441, 3) := by decide +kernel
theorem dX10_ahead_16 : decode cX10_ahead 16 = .ok (.ifCond .ne 5, 3) := by decide +kernel
theorem dX10_ahead_19 : decode cX10_ahead 19 = .ok (.iconst (-1), 1) := by decide +kernel
theorem dX10_ahead_20 : decode cX10_ahead 20 = .ok (.ireturn, 1) := by decide +kernel
theorem dX10_ahead_21 : decode cX10_ahead 21 = .ok (.aload_n 0, 1) := by decide +kernel
theorem dX10_ahead_22 : decode cX10_ahead 22 = .ok (.iload_n 1, 1) := by decide +kernel
theorem dX10_ahead_23 : decode cX10_ahead 23 = .ok (.iload_n 2, 1) := by decide +kernel
theorem dX10_ahead_24 : decode cX10_ahead 24 = .ok (.iload_n 3, 1) := by decide +kernel
theorem dX10_ahead_25 : decode cX10_ahead 25 = .ok (.iload 4, 2) := by decide +kernel
theorem dX10_ahead_27 : decode cX10_ahead 27 = .ok (.iload 5, 2) := by decide +kernel
theorem dX10_ahead_29 : decode cX10_ahead 29 = .ok (.invokevirtual 444, 3) := by decide +kernel
theorem dX10_ahead_32 : decode cX10_ahead 32 = .ok (.aload_n 0, 1) := by decide +kernel
theorem dX10_ahead_33 : decode cX10_ahead 33 = .ok (.invokevirtual 422, 3) := by decide +kernel
theorem dX10_ahead_36 : decode cX10_ahead 36 = .ok (.ireturn, 1) := by decide +kernel
theorem dX10_site_0 : decode cX10_site 0 = .ok (.aload_n 0, 1) := by decide +kernel
theorem dX10_site_1 : decode cX10_site 1 = .ok (.iconst 0, 1) := by decide +kernel
theorem dX10_site_2 : decode cX10_site 2 = .ok (.putfield 103, 3) := by decide +kernel
theorem dX10_site_5 : decode cX10_site 5 = .ok (.iconst 0, 1) := by decide +kernel
theorem dX10_site_6 : decode cX10_site 6 = .ok (.iconst 0, 1) := by decide +kernel
theorem dX10_site_7 : decode cX10_site 7 = .ok (.iload_n 1, 1) := by decide +kernel
theorem dX10_site_8 : decode cX10_site 8 = .ok (.iload_n 2, 1) := by decide +kernel
theorem dX10_site_9 : decode cX10_site 9 = .ok (.iload_n 3, 1) := by decide +kernel
theorem dX10_site_10 : decode cX10_site 10 = .ok (.invokestatic 157, 3) := by decide +kernel
theorem dX10_site_13 : decode cX10_site 13 = .ok (.ifCond .eq 16, 3) := by decide +kernel
theorem dX10_site_16 : decode cX10_site 16 = .ok (.iload 4, 2) := by decide +kernel
theorem dX10_site_18 : decode cX10_site 18 = .ok (.i2l, 1) := by decide +kernel
theorem dX10_site_19 : decode cX10_site 19 = .ok (.lconst 0, 1) := by decide +kernel
theorem dX10_site_20 : decode cX10_site 20 = .ok (.ldc2_w 171, 3) := by decide +kernel
theorem dX10_site_23 : decode cX10_site 23 = .ok (.invokestatic 113, 3) := by decide +kernel
theorem dX10_site_26 : decode cX10_site 26 = .ok (.ifCond .ne 5, 3) := by decide +kernel
theorem dX10_site_29 : decode cX10_site 29 = .ok (.iconst (-1), 1) := by decide +kernel
theorem dX10_site_30 : decode cX10_site 30 = .ok (.ireturn, 1) := by decide +kernel
theorem dX10_site_31 : decode cX10_site 31 = .ok (.ldc_w 448, 3) := by decide +kernel
theorem dX10_site_34 : decode cX10_site 34 = .ok (.istore 5, 2) := by decide +kernel
theorem dX10_site_36 : decode cX10_site 36 = .ok (.iconst (-1), 1) := by decide +kernel
theorem dX10_site_37 : decode cX10_site 37 = .ok (.istore 6, 2) := by decide +kernel
theorem dX10_site_39 : decode cX10_site 39 = .ok (.iconst 0, 1) := by decide +kernel
theorem dX10_site_40 : decode cX10_site 40 = .ok (.istore 7, 2) := by decide +kernel
theorem dX10_site_42 : decode cX10_site 42 = .ok (.iconst 0, 1) := by decide +kernel
theorem dX10_site_43 : decode cX10_site 43 = .ok (.istore 8, 2) := by decide +kernel
theorem dX10_site_45 : decode cX10_site 45 = .ok (.iload 8, 2) := by decide +kernel
theorem dX10_site_47 : decode cX10_site 47 = .ok (.bipush 100, 2) := by decide +kernel
theorem dX10_site_49 : decode cX10_site 49 = .ok (.if_icmp .ge 87, 3) := by decide +kernel
theorem dX10_site_52 : decode cX10_site 52 = .ok (.aload_n 0, 1) := by decide +kernel
theorem dX10_site_53 : decode cX10_site 53 = .ok (.iload 8, 2) := by decide +kernel
theorem dX10_site_55 : decode cX10_site 55 = .ok (.bipush 10, 2) := by decide +kernel
theorem dX10_site_57 : decode cX10_site 57 = .ok (.irem, 1) := by decide +kernel
theorem dX10_site_58 : decode cX10_site 58 = .ok (.iload 8, 2) := by decide +kernel
theorem dX10_site_60 : decode cX10_site 60 = .ok (.bipush 10, 2) := by decide +kernel
theorem dX10_site_62 : decode cX10_site 62 = .ok (.idiv, 1) := by decide +kernel
theorem dX10_site_63 : decode cX10_site 63 = .ok (.iload_n 1, 1) := by decide +kernel
theorem dX10_site_64 : decode cX10_site 64 = .ok (.iload_n 2, 1) := by decide +kernel
theorem dX10_site_65 : decode cX10_site 65 = .ok (.iload_n 3, 1) := by decide +kernel
theorem dX10_site_66 : decode cX10_site 66 = .ok (.invokevirtual 441, 3) := by decide +kernel
theorem dX10_site_69 : decode cX10_site 69 = .ok (.ifCond .eq 61, 3) := by decide +kernel
theorem dX10_site_72 : decode cX10_site 72 = .ok (.iinc 7 1, 3) := by decide +kernel
theorem dX10_site_75 : decode cX10_site 75 = .ok (.aload_n 0, 1) := by decide +kernel
theorem dX10_site_76 : decode cX10_site 76 = .ok (.iload 8, 2) := by decide +kernel
theorem dX10_site_78 : decode cX10_site 78 = .ok (.bipush 10, 2) := by decide +kernel
theorem dX10_site_80 : decode cX10_site 80 = .ok (.irem, 1) := by decide +kernel
theorem dX10_site_81 : decode cX10_site 81 = .ok (.iload 8, 2) := by decide +kernel
theorem dX10_site_83 : decode cX10_site 83 = .ok (.bipush 10, 2) := by decide +kernel
theorem dX10_site_85 : decode cX10_site 85 = .ok (.idiv, 1) := by decide +kernel
theorem dX10_site_86 : decode cX10_site 86 = .ok (.iload_n 1, 1) := by decide +kernel
theorem dX10_site_87 : decode cX10_site 87 = .ok (.iload_n 2, 1) := by decide +kernel
theorem dX10_site_88 : decode cX10_site 88 = .ok (.iload_n 3, 1) := by decide +kernel
theorem dX10_site_89 : decode cX10_site 89 = .ok (.invokevirtual 444, 3) := by decide +kernel
theorem dX10_site_92 : decode cX10_site 92 = .ok (.aload_n 0, 1) := by decide +kernel
theorem dX10_site_93 : decode cX10_site 93 = .ok (.invokevirtual 422, 3) := by decide +kernel
theorem dX10_site_96 : decode cX10_site 96 = .ok (.istore 9, 2) := by decide +kernel
theorem dX10_site_98 : decode cX10_site 98 = .ok (.iload 9, 2) := by decide +kernel
theorem dX10_site_100 : decode cX10_site 100 = .ok (.iload 5, 2) := by decide +kernel
theorem dX10_site_102 : decode cX10_site 102 = .ok (.if_icmp .ge 8, 3) := by decide +kernel
theorem dX10_site_105 : decode cX10_site 105 = .ok (.iload 8, 2) := by decide +kernel
theorem dX10_site_107 : decode cX10_site 107 = .ok (.goto 5, 3) := by decide +kernel
theorem dX10_site_110 : decode cX10_site 110 = .ok (.iload 6, 2) := by decide +kernel
theorem dX10_site_112 : decode cX10_site 112 = .ok (.istore 6, 2) := by decide +kernel
theorem dX10_site_114 : decode cX10_site 114 = .ok (.iload 9, 2) := by decide +kernel
theorem dX10_site_116 : decode cX10_site 116 = .ok (.iload 5, 2) := by decide +kernel
theorem dX10_site_118 : decode cX10_site 118 = .ok (.if_icmp .ge 8, 3) := by decide +kernel
theorem dX10_site_121 : decode cX10_site 121 = .ok (.iload 9, 2) := by decide +kernel
theorem dX10_site_123 : decode cX10_site 123 = .ok (.goto 5, 3) := by decide +kernel
theorem dX10_site_126 : decode cX10_site 126 = .ok (.iload 5, 2) := by decide +kernel
theorem dX10_site_128 : decode cX10_site 128 = .ok (.istore 5, 2) := by decide +kernel
theorem dX10_site_130 : decode cX10_site 130 = .ok (.iinc 8 1, 3) := by decide +kernel
theorem dX10_site_133 : decode cX10_site 133 = .ok (.goto (-88), 3) := by decide +kernel
theorem dX10_site_136 : decode cX10_site 136 = .ok (.iload 4, 2) := by decide +kernel
theorem dX10_site_138 : decode cX10_site 138 = .ok (.iconst 2, 1) := by decide +kernel
theorem dX10_site_139 : decode cX10_site 139 = .ok (.if_icmp .ne 8, 3) := by decide +kernel
theorem dX10_site_142 : decode cX10_site 142 = .ok (.iload 7, 2) := by decide +kernel
theorem dX10_site_144 : decode cX10_site 144 = .ok (.goto 25, 3) := by decide +kernel
theorem dX10_site_147 : decode cX10_site 147 = .ok (.iload 6, 2) := by decide +kernel
theorem dX10_site_149 : decode cX10_site 149 = .ok (.iconst (-1), 1) := by decide +kernel
theorem dX10_site_150 : decode cX10_site 150 = .ok (.if_icmp .ne 7, 3) := by decide +kernel
theorem dX10_site_153 : decode cX10_site 153 = .ok (.iconst (-1), 1) := by decide +kernel
theorem dX10_site_154 : decode cX10_site 154 = .ok (.goto 15, 3) := by decide +kernel
theorem dX10_site_157 : decode cX10_site 157 = .ok (.iload 4, 2) := by decide +kernel
theorem dX10_site_159 : decode cX10_site 159 = .ok (.ifCond .ne 8, 3) := by decide +kernel
theorem dX10_site_162 : decode cX10_site 162 = .ok (.iload 6, 2) := by decide +kernel
theorem dX10_site_164 : decode cX10_site 164 = .ok (.goto 5, 3) := by decide +kernel
theorem dX10_site_167 : decode cX10_site 167 = .ok (.iload 5, 2) := by decide +kernel
theorem dX10_site_169 : decode cX10_site 169 = .ok (.ireturn, 1) := by decide +kernel
theorem dX10_curve_0 : decode cX10_curve 0 = .ok (.aload_n 0, 1) := by decide +kernel
theorem dX10_curve_1 : decode cX10_curve 1 = .ok (.iconst 0, 1) := by decide +kernel
theorem dX10_curve_2 : decode cX10_curve 2 = .ok (.putfield 103, 3) := by decide +kernel
theorem dX10_curve_5 : decode cX10_curve 5 = .ok (.aload_n 0, 1) := by decide +kernel
theorem dX10_curve_6 : decode cX10_curve 6 = .ok (.iload_n 1, 1) := by decide +kernel
theorem dX10_curve_7 : decode cX10_curve 7 = .ok (.invokevirtual 148, 3) := by decide +kernel
theorem dX10_curve_10 : decode cX10_curve 10 = .ok (.ifCond .eq 35, 3) := by decide +kernel
theorem dX10_curve_13 : decode cX10_curve 13 = .ok (.iload_n 2, 1) := by decide +kernel
theorem dX10_curve_14 : decode cX10_curve 14 = .ok (.invokestatic 178, 3) := by decide +kernel
theorem dX10_curve_17 : decode cX10_curve 17 = .ok (.ifCond .eq 28, 3) := by decide +kernel
theorem dX10_curve_20 : decode cX10_curve 20 = .ok (.iload_n 3, 1) := by decide +kernel
theorem dX10_curve_21 : decode cX10_curve 21 = .ok (.i2l, 1) := by decide +kernel
theorem dX10_curve_22 : decode cX10_curve 22 = .ok (.lconst 0, 1) := by decide +kernel
theorem dX10_curve_23 : decode cX10_curve 23 = .ok (.ldc2_w 142, 3) := by decide +kernel
theorem dX10_curve_26 : decode cX10_curve 26 = .ok (.invokestatic 113, 3) := by decide +kernel
theorem dX10_curve_29 : decode cX10_curve 29 = .ok (.ifCond .eq 16, 3) := by decide +kernel
theorem dX10_curve_32 : decode cX10_curve 32 = .ok (.iload 4, 2) := by decide +kernel
theorem dX10_curve_34 : decode cX10_curve 34 = .ok (.i2l, 1) := by decide +kernel
theorem dX10_curve_35 : decode cX10_curve 35 = .ok (.lconst 1, 1) := by decide +kernel
theorem dX10_curve_36 : decode cX10_curve 36 = .ok (.ldc2_w 144, 3) := by decide +kernel
theorem dX10_curve_39 : decode cX10_curve 39 = .ok (.invokestatic 113, 3) := by decide +kernel
theorem dX10_curve_42 : decode cX10_curve 42 = .ok (.ifCond .ne 5, 3) := by decide +kernel
theorem dX10_curve_45 : decode cX10_curve 45 = .ok (.iconst (-1), 1) := by decide +kernel
theorem dX10_curve_46 : decode cX10_curve 46 = .ok (.ireturn, 1) := by decide +kernel
theorem dX10_curve_47 : decode cX10_curve 47 = .ok (.iload_n 1, 1) := by decide +kernel
theorem dX10_curve_48 : decode cX10_curve 48 = .ok (.iload_n 2, 1) := by decide +kernel
theorem dX10_curve_49 : decode cX10_curve 49 = .ok (.iload 4, 2) := by decide +kernel
theorem dX10_curve_51 : decode cX10_curve 51 = .ok (.ineg, 1) := by decide +kernel
theorem dX10_curve_52 : decode cX10_curve 52 = .ok (.invokestatic 373, 3) := by decide +kernel
theorem dX10_curve_55 : decode cX10_curve 55 = .ok (.istore 5, 2) := by decide +kernel
theorem dX10_curve_57 : decode cX10_curve 57 = .ok (.iload 5, 2) := by decide +kernel
theorem dX10_curve_59 : decode cX10_curve 59 = .ok (.iconst (-1), 1) := by decide +kernel
theorem dX10_curve_60 : decode cX10_curve 60 = .ok (.if_icmp .eq 23, 3) := by decide +kernel
theorem dX10_curve_63 : decode cX10_curve 63 = .ok (.aload_n 0, 1) := by decide +kernel
theorem dX10_curve_64 : decode cX10_curve 64 = .ok (.iload 5, 2) := by decide +kernel
theorem dX10_curve_66 : decode cX10_curve 66 = .ok (.iconst (-1), 1) := by decide +kernel
theorem dX10_curve_67 : decode cX10_curve 67 = .ok (.if_icmp .ne 7, 3) := by decide +kernel
theorem dX10_curve_70 : decode cX10_curve 70 = .ok (.iconst 0, 1) := by decide +kernel
theorem dX10_curve_71 : decode cX10_curve 71 = .ok (.goto 5, 3) := by decide +kernel
theorem dX10_curve_74 : decode cX10_curve 74 = .ok (.iload 5, 2) := by decide +kernel
theorem dX10_curve_76 : decode cX10_curve 76 = .ok (.invokevirtual 136, 3) := by decide +kernel
theorem dX10_curve_79 : decode cX10_curve 79 = .ok (.iconst (-1), 1) := by decide +kernel
theorem dX10_curve_80 : decode cX10_curve 80 = .ok (.if_icmp .eq 5, 3) := by decide +kernel
theorem dX10_curve_83 : decode cX10_curve 83 = .ok (.iconst (-1), 1) := by decide +kernel
theorem dX10_curve_84 : decode cX10_curve 84 = .ok (.ireturn, 1) := by decide +kernel
theorem dX10_curve_85 : decode cX10_curve 85 = .ok (.aload_n 0, 1) := by decide +kernel
theorem dX10_curve_86 : decode cX10_curve 86 = .ok (.invokevirtual 405, 3) := by decide +kernel
theorem dX10_curve_89 : decode cX10_curve 89 = .ok (.aload_n 0, 1) := by decide +kernel
theorem dX10_curve_90 : decode cX10_curve 90 = .ok (.getfield 79, 3) := by decide +kernel
theorem dX10_curve_93 : decode cX10_curve 93 = .ok (.iload_n 1, 1) := by decide +kernel
theorem dX10_curve_94 : decode cX10_curve 94 = .ok (.iload_n 3, 1) := by decide +kernel
theorem dX10_curve_95 : decode cX10_curve 95 = .ok (.iastore, 1) := by decide +kernel
theorem dX10_curve_96 : decode cX10_curve 96 = .ok (.aload_n 0, 1) := by decide +kernel
theorem dX10_curve_97 : decode cX10_curve 97 = .ok (.iload 5, 2) := by decide +kernel
theorem dX10_curve_99 : decode cX10_curve 99 = .ok (.iload_n 2, 1) := by decide +kernel
theorem dX10_curve_100 : decode cX10_curve 100 = .ok (.invokevirtual 408, 3) := by decide +kernel
theorem dX10_curve_103 : decode cX10_curve 103 = .ok (.ireturn, 1) := by decide +kernel
theorem dX10_work_0 : decode cX10_work 0 = .ok (.aload_n 0, 1) := by decide +kernel
theorem dX10_work_1 : decode cX10_work 1 = .ok (.iconst 0, 1) := by decide +kernel
theorem dX10_work_2 : decode cX10_work 2 = .ok (.putfield 103, 3) := by decide +kernel
theorem dX10_work_5 : decode cX10_work 5 = .ok (.iload_n 1, 1) := by decide +kernel
theorem dX10_work_6 : decode cX10_work 6 = .ok (.i2l, 1) := by decide +kernel
theorem dX10_work_7 : decode cX10_work 7 = .ok (.lconst 0, 1) := by decide +kernel
theorem dX10_work_8 : decode cX10_work 8 = .ok (.ldc2_w 122, 3) := by decide +kernel
theorem dX10_work_11 : decode cX10_work 11 = .ok (.invokestatic 113, 3) := by decide +kernel
theorem dX10_work_14 : decode cX10_work 14 = .ok (.ifCond .eq 20, 3) := by decide +kernel
theorem dX10_work_17 : decode cX10_work 17 = .ok (.iload 4, 2) := by decide +kernel
theorem dX10_work_19 : decode cX10_work 19 = .ok (.i2l, 1) := by decide +kernel
theorem dX10_work_20 : decode cX10_work 20 = .ok (.lconst 0, 1) := by decide +kernel
theorem dX10_work_21 : decode cX10_work 21 = .ok (.ldc2_w 181, 3) := by decide +kernel
theorem dX10_work_24 : decode cX10_work 24 = .ok (.invokestatic 113, 3) := by decide +kernel
theorem dX10_work_27 : decode cX10_work 27 = .ok (.ifCond .eq 7, 3) := by decide +kernel
theorem dX10_work_30 : decode cX10_work 30 = .ok (.iconst 1, 1) := by decide +kernel
theorem dX10_work_31 : decode cX10_work 31 = .ok (.goto 4, 3) := by decide +kernel
theorem dX10_work_34 : decode cX10_work 34 = .ok (.iconst 0, 1) := by decide +kernel
theorem dX10_work_35 : decode cX10_work 35 = .ok (.istore 5, 2) := by decide +kernel
theorem dX10_work_37 : decode cX10_work 37 = .ok (.iload 5, 2) := by decide +kernel
theorem dX10_work_39 : decode cX10_work 39 = .ok (.ifCond .eq 46, 3) := by decide +kernel
theorem dX10_work_42 : decode cX10_work 42 = .ok (.iload_n 1, 1) := by decide +kernel
theorem dX10_work_43 : decode cX10_work 43 = .ok (.iconst 2, 1) := by decide +kernel
theorem dX10_work_44 : decode cX10_work 44 = .ok (.if_icmp .eq 10, 3) := by decide +kernel
theorem dX10_work_47 : decode cX10_work 47 = .ok (.iload_n 2, 1) := by decide +kernel
theorem dX10_work_48 : decode cX10_work 48 = .ok (.invokestatic 132, 3) := by decide +kernel
theorem dX10_work_51 : decode cX10_work 51 = .ok (.ifCond .eq 34, 3) := by decide +kernel
theorem dX10_work_54 : decode cX10_work 54 = .ok (.iload_n 1, 1) := by decide +kernel
theorem dX10_work_55 : decode cX10_work 55 = .ok (.iconst 3, 1) := by decide +kernel
theorem dX10_work_56 : decode cX10_work 56 = .ok (.if_icmp .ne 13, 3) := by decide +kernel
theorem dX10_work_59 : decode cX10_work 59 = .ok (.iload_n 3, 1) := by decide +kernel
theorem dX10_work_60 : decode cX10_work 60 = .ok (.invokestatic 132, 3) := by decide +kernel
theorem dX10_work_63 : decode cX10_work 63 = .ok (.ifCond .eq 22, 3) := by decide +kernel
theorem dX10_work_66 : decode cX10_work 66 = .ok (.goto 15, 3) := by decide +kernel
theorem dX10_work_69 : decode cX10_work 69 = .ok (.iload_n 3, 1) := by decide +kernel
theorem dX10_work_70 : decode cX10_work 70 = .ok (.i2l, 1) := by decide +kernel
theorem dX10_work_71 : decode cX10_work 71 = .ok (.lconst 1, 1) := by decide +kernel
theorem dX10_work_72 : decode cX10_work 72 = .ok (.ldc2_w 142, 3) := by decide +kernel
theorem dX10_work_75 : decode cX10_work 75 = .ok (.invokestatic 113, 3) := by decide +kernel
theorem dX10_work_78 : decode cX10_work 78 = .ok (.ifCond .eq 7, 3) := by decide +kernel
theorem dX10_work_81 : decode cX10_work 81 = .ok (.iconst 1, 1) := by decide +kernel
theorem dX10_work_82 : decode cX10_work 82 = .ok (.goto 4, 3) := by decide +kernel
theorem dX10_work_85 : decode cX10_work 85 = .ok (.iconst 0, 1) := by decide +kernel
theorem dX10_work_86 : decode cX10_work 86 = .ok (.istore 5, 2) := by decide +kernel
theorem dX10_work_88 : decode cX10_work 88 = .ok (.iload 5, 2) := by decide +kernel
theorem dX10_work_90 : decode cX10_work 90 = .ok (.ifCond .ne 9, 3) := by decide +kernel
theorem dX10_work_93 : decode cX10_work 93 = .ok (.aload_n 0, 1) := by decide +kernel
theorem dX10_work_94 : decode cX10_work 94 = .ok (.iconst (-1), 1) := by decide +kernel
theorem dX10_work_95 : decode cX10_work 95 = .ok (.invokevirtual 117, 3) := by decide +kernel
theorem dX10_work_98 : decode cX10_work 98 = .ok (.ireturn, 1) := by decide +kernel
theorem dX10_work_99 : decode cX10_work 99 = .ok (.iload_n 1, 1) := by decide +kernel
theorem dX10_work_100 : decode cX10_work 100 = .ok (.iconst 2, 1) := by decide +kernel
theorem dX10_work_101 : decode cX10_work 101 = .ok (.if_icmp .ne 18, 3) := by decide +kernel
theorem dX10_work_104 : decode cX10_work 104 = .ok (.aload_n 0, 1) := by decide +kernel
theorem dX10_work_105 : decode cX10_work 105 = .ok (.iload_n 2, 1) := by decide +kernel
theorem dX10_work_106 : decode cX10_work 106 = .ok (.invokevirtual 165, 3) := by decide +kernel
theorem dX10_work_109 : decode cX10_work 109 = .ok (.ifCond .ne 10, 3) := by decide +kernel
theorem dX10_work_112 : decode cX10_work 112 = .ok (.aload_n 0, 1) := by decide +kernel
theorem dX10_work_113 : decode cX10_work 113 = .ok (.bipush (-2), 2) := by decide +kernel
theorem dX10_work_115 : decode cX10_work 115 = .ok (.invokevirtual 117, 3) := by decide +kernel
theorem dX10_work_118 : decode cX10_work 118 = .ok (.ireturn, 1) := by decide +kernel
theorem dX10_work_119 : decode cX10_work 119 = .ok (.iload_n 1, 1) := by decide +kernel
theorem dX10_work_120 : decode cX10_work 120 = .ok (.iconst 2, 1) := by decide +kernel
theorem dX10_work_121 : decode cX10_work 121 = .ok (.if_icmp .eq 11, 3) := by decide +kernel
theorem dX10_work_124 : decode cX10_work 124 = .ok (.aload_n 0, 1) := by decide +kernel
theorem dX10_work_125 : decode cX10_work 125 = .ok (.iload_n 2, 1) := by decide +kernel
theorem dX10_work_126 : decode cX10_work 126 = .ok (.invokevirtual 148, 3) := by decide +kernel
theorem dX10_work_129 : decode cX10_work 129 = .ok (.ifCond .eq 16, 3) := by decide +kernel
theorem dX10_work_132 : decode cX10_work 132 = .ok (.iload_n 1, 1) := by decide +kernel
theorem dX10_work_133 : decode cX10_work 133 = .ok (.iconst 3, 1) := by decide +kernel
theorem dX10_work_134 : decode cX10_work 134 = .ok (.if_icmp .ne 18, 3) := by decide +kernel
theorem dX10_work_137 : decode cX10_work 137 = .ok (.aload_n 0, 1) := by decide +kernel
theorem dX10_work_138 : decode cX10_work 138 = .ok (.iload_n 3, 1) := by decide +kernel
theorem dX10_work_139 : decode cX10_work 139 = .ok (.invokevirtual 148, 3) := by decide +kernel
theorem dX10_work_142 : decode cX10_work 142 = .ok (.ifCond .ne 10, 3) := by decide +kernel
theorem dX10_work_145 : decode cX10_work 145 = .ok (.aload_n 0, 1) := by decide +kernel
theorem dX10_work_146 : decode cX10_work 146 = .ok (.bipush (-3), 2) := by decide +kernel
theorem dX10_work_148 : decode cX10_work 148 = .ok (.invokevirtual 117, 3) := by decide +kernel
theorem dX10_work_151 : decode cX10_work 151 = .ok (.ireturn, 1) := by decide +kernel
theorem dX10_work_152 : decode cX10_work 152 = .ok (.aload_n 0, 1) := by decide +kernel
theorem dX10_work_153 : decode cX10_work 153 = .ok (.getfield 13, 3) := by decide +kernel
theorem dX10_work_156 : decode cX10_work 156 = .ok (.iconst 3, 1) := by decide +kernel
theorem dX10_work_157 : decode cX10_work 157 = .ok (.iaload, 1) := by decide +kernel
theorem dX10_work_158 : decode cX10_work 158 = .ok (.istore 6, 2) := by decide +kernel
theorem dX10_work_160 : decode cX10_work 160 = .ok (.iload 6, 2) := by decide +kernel
theorem dX10_work_162 : decode cX10_work 162 = .ok (.bipush 8, 2) := by decide +kernel
theorem dX10_work_164 : decode cX10_work 164 = .ok (.if_icmp .ne 10, 3) := by decide +kernel
theorem dX10_work_167 : decode cX10_work 167 = .ok (.aload_n 0, 1) := by decide +kernel
theorem dX10_work_168 : decode cX10_work 168 = .ok (.bipush (-5), 2) := by decide +kernel
theorem dX10_work_170 : decode cX10_work 170 = .ok (.invokevirtual 117, 3) := by decide +kernel
theorem dX10_work_173 : decode cX10_work 173 = .ok (.ireturn, 1) := by decide +kernel
theorem dX10_work_174 : decode cX10_work 174 = .ok (.aload_n 0, 1) := by decide +kernel
theorem dX10_work_175 : decode cX10_work 175 = .ok (.getfield 13, 3) := by decide +kernel
theorem dX10_work_178 : decode cX10_work 178 = .ok (.sipush 381, 3) := by decide +kernel
theorem dX10_work_181 : decode cX10_work 181 = .ok (.iconst 4, 1) := by decide +kernel
theorem dX10_work_182 : decode cX10_work 182 = .ok (.iload 6, 2) := by decide +kernel
theorem dX10_work_184 : decode cX10_work 184 = .ok (.imul, 1) := by decide +kernel
theorem dX10_work_185 : decode cX10_work 185 = .ok (.iadd, 1) := by decide +kernel
theorem dX10_work_186 : decode cX10_work 186 = .ok (.iload_n 1, 1) := by decide +kernel
theorem dX10_work_187 : decode cX10_work 187 = .ok (.iastore, 1) := by decide +kernel
theorem dX10_work_188 : decode cX10_work 188 = .ok (.aload_n 0, 1) := by decide +kernel
theorem dX10_work_189 : decode cX10_work 189 = .ok (.getfield 13, 3) := by decide +kernel
theorem dX10_work_192 : decode cX10_work 192 = .ok (.sipush 381, 3) := by decide +kernel
theorem dX10_work_195 : decode cX10_work 195 = .ok (.iconst 4, 1) := by decide +kernel
theorem dX10_work_196 : decode cX10_work 196 = .ok (.iload 6, 2) := by decide +kernel
theorem dX10_work_198 : decode cX10_work 198 = .ok (.imul, 1) := by decide +kernel
theorem dX10_work_199 : decode cX10_work 199 = .ok (.iadd, 1) := by decide +kernel
theorem dX10_work_200 : decode cX10_work 200 = .ok (.iconst 1, 1) := by decide +kernel
theorem dX10_work_201 : decode cX10_work 201 = .ok (.iadd, 1) := by decide +kernel
theorem dX10_work_202 : decode cX10_work 202 = .ok (.iload_n 2, 1) := by decide +kernel
theorem dX10_work_203 : decode cX10_work 203 = .ok (.iastore, 1) := by decide +kernel
theorem dX10_work_204 : decode cX10_work 204 = .ok (.aload_n 0, 1) := by decide +kernel
theorem dX10_work_205 : decode cX10_work 205 = .ok (.getfield 13, 3) := by decide +kernel
theorem dX10_work_208 : decode cX10_work 208 = .ok (.sipush 381, 3) := by decide +kernel
theorem dX10_work_211 : decode cX10_work 211 = .ok (.iconst 4, 1) := by decide +kernel
theorem dX10_work_212 : decode cX10_work 212 = .ok (.iload 6, 2) := by decide +kernel
theorem dX10_work_214 : decode cX10_work 214 = .ok (.imul, 1) := by decide +kernel
theorem dX10_work_215 : decode cX10_work 215 = .ok (.iadd, 1) := by decide +kernel
theorem dX10_work_216 : decode cX10_work 216 = .ok (.iconst 2, 1) := by decide +kernel
theorem dX10_work_217 : decode cX10_work 217 = .ok (.iadd, 1) := by decide +kernel
theorem dX10_work_218 : decode cX10_work 218 = .ok (.iload_n 3, 1) := by decide +kernel
theorem dX10_work_219 : decode cX10_work 219 = .ok (.iastore, 1) := by decide +kernel
theorem dX10_work_220 : decode cX10_work 220 = .ok (.aload_n 0, 1) := by decide +kernel
theorem dX10_work_221 : decode cX10_work 221 = .ok (.getfield 13, 3) := by decide +kernel
theorem dX10_work_224 : decode cX10_work 224 = .ok (.sipush 381, 3) := by decide +kernel
theorem dX10_work_227 : decode cX10_work 227 = .ok (.iconst 4, 1) := by decide +kernel
theorem dX10_work_228 : decode cX10_work 228 = .ok (.iload 6, 2) := by decide +kernel
theorem dX10_work_230 : decode cX10_work 230 = .ok (.imul, 1) := by decide +kernel
theorem dX10_work_231 : decode cX10_work 231 = .ok (.iadd, 1) := by decide +kernel
theorem dX10_work_232 : decode cX10_work 232 = .ok (.iconst 3, 1) := by decide +kernel
theorem dX10_work_233 : decode cX10_work 233 = .ok (.iadd, 1) := by decide +kernel
theorem dX10_work_234 : decode cX10_work 234 = .ok (.iload 4, 2) := by decide +kernel
theorem dX10_work_236 : decode cX10_work 236 = .ok (.iastore, 1) := by decide +kernel
theorem dX10_work_237 : decode cX10_work 237 = .ok (.aload_n 0, 1) := by decide +kernel
theorem dX10_work_238 : decode cX10_work 238 = .ok (.getfield 13, 3) := by decide +kernel
theorem dX10_work_241 : decode cX10_work 241 = .ok (.iconst 3, 1) := by decide +kernel
theorem dX10_work_242 : decode cX10_work 242 = .ok (.dup2, 1) := by decide +kernel
theorem dX10_work_243 : decode cX10_work 243 = .ok (.iaload, 1) := by decide +kernel
theorem dX10_work_244 : decode cX10_work 244 = .ok (.iconst 1, 1) := by decide +kernel
theorem dX10_work_245 : decode cX10_work 245 = .ok (.iadd, 1) := by decide +kernel
theorem dX10_work_246 : decode cX10_work 246 = .ok (.iastore, 1) := by decide +kernel
theorem dX10_work_247 : decode cX10_work 247 = .ok (.aload_n 0, 1) := by decide +kernel
theorem dX10_work_248 : decode cX10_work 248 = .ok (.iload 6, 2) := by decide +kernel
theorem dX10_work_250 : decode cX10_work 250 = .ok (.invokevirtual 117, 3) := by decide +kernel
theorem dX10_work_253 : decode cX10_work 253 = .ok (.ireturn, 1) := by decide +kernel
theorem dX10_out_0 : decode cX10_out 0 = .ok (.sipush 381, 3) := by decide +kernel
theorem dX10_out_3 : decode cX10_out 3 = .ok (.iconst 4, 1) := by decide +kernel
theorem dX10_out_4 : decode cX10_out 4 = .ok (.iload_n 1, 1) := by decide +kernel
theorem dX10_out_5 : decode cX10_out 5 = .ok (.imul, 1) := by decide +kernel
theorem dX10_out_6 : decode cX10_out 6 = .ok (.iadd, 1) := by decide +kernel
theorem dX10_out_7 : decode cX10_out 7 = .ok (.istore_n 2, 1) := by decide +kernel
theorem dX10_out_8 : decode cX10_out 8 = .ok (.iload_n 2, 1) := by decide +kernel
theorem dX10_out_9 : decode cX10_out 9 = .ok (.sipush 409, 3) := by decide +kernel
theorem dX10_out_12 : decode cX10_out 12 = .ok (.if_icmp .ge 23, 3) := by decide +kernel
theorem dX10_out_15 : decode cX10_out 15 = .ok (.aload_n 0, 1) := by decide +kernel
theorem dX10_out_16 : decode cX10_out 16 = .ok (.getfield 13, 3) := by decide +kernel
theorem dX10_out_19 : decode cX10_out 19 = .ok (.iload_n 2, 1) := by decide +kernel
theorem dX10_out_20 : decode cX10_out 20 = .ok (.aload_n 0, 1) := by decide +kernel
theorem dX10_out_21 : decode cX10_out 21 = .ok (.getfield 13, 3) := by decide +kernel
theorem dX10_out_24 : decode cX10_out 24 = .ok (.iload_n 2, 1) := by decide +kernel
theorem dX10_out_25 : decode cX10_out 25 = .ok (.iconst 4, 1) := by decide +kernel
theorem dX10_out_26 : decode cX10_out 26 = .ok (.iadd, 1) := by decide +kernel
theorem dX10_out_27 : decode cX10_out 27 = .ok (.iaload, 1) := by decide +kernel
theorem dX10_out_28 : decode cX10_out 28 = .ok (.iastore, 1) := by decide +kernel
theorem dX10_out_29 : decode cX10_out 29 = .ok (.iinc 2 1, 3) := by decide +kernel
theorem dX10_out_32 : decode cX10_out 32 = .ok (.goto (-24), 3) := by decide +kernel
theorem dX10_out_35 : decode cX10_out 35 = .ok (.aload_n 0, 1) := by decide +kernel
theorem dX10_out_36 : decode cX10_out 36 = .ok (.getfield 13, 3) := by decide +kernel
theorem dX10_out_39 : decode cX10_out 39 = .ok (.iconst 3, 1) := by decide +kernel
theorem dX10_out_40 : decode cX10_out 40 = .ok (.dup2, 1) := by decide +kernel
theorem dX10_out_41 : decode cX10_out 41 = .ok (.iaload, 1) := by decide +kernel
theorem dX10_out_42 : decode cX10_out 42 = .ok (.iconst 1, 1) := by decide +kernel
theorem dX10_out_43 : decode cX10_out 43 = .ok (.isub, 1) := by decide +kernel
theorem dX10_out_44 : decode cX10_out 44 = .ok (.iastore, 1) := by decide +kernel
theorem dX10_out_45 : decode cX10_out 45 = .ok (.return_, 1) := by decide +kernel
theorem dX10_drop_0 : decode cX10_drop 0 = .ok (.aload_n 0, 1) := by decide +kernel
theorem dX10_drop_1 : decode cX10_drop 1 = .ok (.iconst 0, 1) := by decide +kernel
theorem dX10_drop_2 : decode cX10_drop 2 = .ok (.putfield 103, 3) := by decide +kernel
theorem dX10_drop_5 : decode cX10_drop 5 = .ok (.iload_n 1, 1) := by decide +kernel
theorem dX10_drop_6 : decode cX10_drop 6 = .ok (.i2l, 1) := by decide +kernel
theorem dX10_drop_7 : decode cX10_drop 7 = .ok (.lconst 0, 1) := by decide +kernel
theorem dX10_drop_8 : decode cX10_drop 8 = .ok (.aload_n 0, 1) := by decide +kernel
theorem dX10_drop_9 : decode cX10_drop 9 = .ok (.getfield 13, 3) := by decide +kernel
theorem dX10_drop_12 : decode cX10_drop 12 = .ok (.iconst 3, 1) := by decide +kernel
theorem dX10_drop_13 : decode cX10_drop 13 = .ok (.iaload, 1) := by decide +kernel
theorem dX10_drop_14 : decode cX10_drop 14 = .ok (.i2l, 1) := by decide +kernel
theorem dX10_drop_15 : decode cX10_drop 15 = .ok (.lconst 1, 1) := by decide +kernel
theorem dX10_drop_16 : decode cX10_drop 16 = .ok (.lsub, 1) := by decide +kernel
theorem dX10_drop_17 : decode cX10_drop 17 = .ok (.invokestatic 113, 3) := by decide +kernel
theorem dX10_drop_20 : decode cX10_drop 20 = .ok (.ifCond .ne 10, 3) := by decide +kernel
theorem dX10_drop_23 : decode cX10_drop 23 = .ok (.aload_n 0, 1) := by decide +kernel
theorem dX10_drop_24 : decode cX10_drop 24 = .ok (.bipush (-2), 2) := by decide +kernel
theorem dX10_drop_26 : decode cX10_drop 26 = .ok (.invokevirtual 117, 3) := by decide +kernel
theorem dX10_drop_29 : decode cX10_drop 29 = .ok (.ireturn, 1) := by decide +kernel
theorem dX10_drop_30 : decode cX10_drop 30 = .ok (.aload_n 0, 1) := by decide +kernel
theorem dX10_drop_31 : decode cX10_drop 31 = .ok (.iload_n 1, 1) := by decide +kernel
theorem dX10_drop_32 : decode cX10_drop 32 = .ok (.invokevirtual 449, 3) := by decide +kernel
theorem dX10_drop_35 : decode cX10_drop 35 = .ok (.aload_n 0, 1) := by decide +kernel
theorem dX10_drop_36 : decode cX10_drop 36 = .ok (.aload_n 0, 1) := by decide +kernel
theorem dX10_drop_37 : decode cX10_drop 37 = .ok (.getfield 13, 3) := by decide +kernel
theorem dX10_drop_40 : decode cX10_drop 40 = .ok (.iconst 3, 1) := by decide +kernel
theorem dX10_drop_41 : decode cX10_drop 41 = .ok (.iaload, 1) := by decide +kernel
theorem dX10_drop_42 : decode cX10_drop 42 = .ok (.invokevirtual 117, 3) := by decide +kernel
theorem dX10_drop_45 : decode cX10_drop 45 = .ok (.ireturn, 1) := by decide +kernel
theorem dX10_doWorks_0 : decode cX10_doWorks 0 = .ok (.aload_n 0, 1) := by decide +kernel
theorem dX10_doWorks_1 : decode cX10_doWorks 1 = .ok (.invokevirtual 405, 3) := by decide +kernel
theorem dX10_doWorks_4 : decode cX10_doWorks 4 = .ok (.iconst 0, 1) := by decide +kernel
theorem dX10_doWorks_5 : decode cX10_doWorks 5 = .ok (.istore_n 2, 1) := by decide +kernel
theorem dX10_doWorks_6 : decode cX10_doWorks 6 = .ok (.iconst 0, 1) := by decide +kernel
theorem dX10_doWorks_7 : decode cX10_doWorks 7 = .ok (.istore_n 3, 1) := by decide +kernel
theorem dX10_doWorks_8 : decode cX10_doWorks 8 = .ok (.iload_n 3, 1) := by decide +kernel
theorem dX10_doWorks_9 : decode cX10_doWorks 9 = .ok (.aload_n 0, 1) := by decide +kernel
theorem dX10_doWorks_10 : decode cX10_doWorks 10 = .ok (.getfield 13, 3) := by decide +kernel
theorem dX10_doWorks_13 : decode cX10_doWorks 13 = .ok (.iconst 3, 1) := by decide +kernel
theorem dX10_doWorks_14 : decode cX10_doWorks 14 = .ok (.iaload, 1) := by decide +kernel
theorem dX10_doWorks_15 : decode cX10_doWorks 15 = .ok (.if_icmp .ge 195, 3) := by decide +kernel
theorem dX10_doWorks_18 : decode cX10_doWorks 18 = .ok (.iload_n 1, 1) := by decide +kernel
theorem dX10_doWorks_19 : decode cX10_doWorks 19 = .ok (.iload_n 3, 1) := by decide +kernel
theorem dX10_doWorks_20 : decode cX10_doWorks 20 = .ok (.invokestatic 354, 3) := by decide +kernel
theorem dX10_doWorks_23 : decode cX10_doWorks 23 = .ok (.ifCond .eq 181, 3) := by decide +kernel
theorem dX10_doWorks_26 : decode cX10_doWorks 26 = .ok (.aload_n 0, 1) := by decide +kernel
theorem dX10_doWorks_27 : decode cX10_doWorks 27 = .ok (.iload_n 3, 1) := by decide +kernel
theorem dX10_doWorks_28 : decode cX10_doWorks 28 = .ok (.iconst 1, 1) := by decide +kernel
theorem dX10_doWorks_29 : decode cX10_doWorks 29 = .ok (.invokevirtual 139, 3) := by decide +kernel
theorem dX10_doWorks_32 : decode cX10_doWorks 32 = .ok (.istore 4, 2) := by decide +kernel
theorem dX10_doWorks_34 : decode cX10_doWorks 34 = .ok (.aload_n 0, 1) := by decide +kernel
theorem dX10_doWorks_35 : decode cX10_doWorks 35 = .ok (.iload_n 3, 1) := by decide +kernel
theorem dX10_doWorks_36 : decode cX10_doWorks 36 = .ok (.iconst 2, 1) := by decide +kernel
theorem dX10_doWorks_37 : decode cX10_doWorks 37 = .ok (.invokevirtual 139, 3) := by decide +kernel
theorem dX10_doWorks_40 : decode cX10_doWorks 40 = .ok (.istore 5, 2) := by decide +kernel
theorem dX10_doWorks_42 : decode cX10_doWorks 42 = .ok (.iload_n 2, 1) := by decide +kernel
theorem dX10_doWorks_43 : decode cX10_doWorks 43 = .ok (.aload_n 0, 1) := by decide +kernel
theorem dX10_doWorks_44 : decode cX10_doWorks 44 = .ok (.iload_n 3, 1) := by decide +kernel
theorem dX10_doWorks_45 : decode cX10_doWorks 45 = .ok (.iconst 3, 1) := by decide +kernel
theorem dX10_doWorks_46 : decode cX10_doWorks 46 = .ok (.invokevirtual 139, 3) := by decide +kernel
theorem dX10_doWorks_49 : decode cX10_doWorks 49 = .ok (.iadd, 1) := by decide +kernel
theorem dX10_doWorks_50 : decode cX10_doWorks 50 = .ok (.istore_n 2, 1) := by decide +kernel
theorem dX10_doWorks_51 : decode cX10_doWorks 51 = .ok (.aload_n 0, 1) := by decide +kernel
theorem dX10_doWorks_52 : decode cX10_doWorks 52 = .ok (.iload_n 3, 1) := by decide +kernel
theorem dX10_doWorks_53 : decode cX10_doWorks 53 = .ok (.iconst 0, 1) := by decide +kernel
theorem dX10_doWorks_54 : decode cX10_doWorks 54 = .ok (.invokevirtual 139, 3) := by decide +kernel
theorem dX10_doWorks_57 : decode cX10_doWorks 57 = .ok (.tableswitch 139 0 2 #[27, 67, 101], 27) := by decide +kernel
theorem dX10_doWorks_84 : decode cX10_doWorks 84 = .ok (.aload_n 0, 1) := by decide +kernel
theorem dX10_doWorks_85 : decode cX10_doWorks 85 = .ok (.getfield 76, 3) := by decide +kernel
theorem dX10_doWorks_88 : decode cX10_doWorks 88 = .ok (.iload 4, 2) := by decide +kernel
theorem dX10_doWorks_90 : decode cX10_doWorks 90 = .ok (.aload_n 0, 1) := by decide +kernel
theorem dX10_doWorks_91 : decode cX10_doWorks 91 = .ok (.getfield 76, 3) := by decide +kernel
theorem dX10_doWorks_94 : decode cX10_doWorks 94 = .ok (.iload 4, 2) := by decide +kernel
theorem dX10_doWorks_96 : decode cX10_doWorks 96 = .ok (.iaload, 1) := by decide +kernel
theorem dX10_doWorks_97 : decode cX10_doWorks 97 = .ok (.iload 5, 2) := by decide +kernel
theorem dX10_doWorks_99 : decode cX10_doWorks 99 = .ok (.iadd, 1) := by decide +kernel
theorem dX10_doWorks_100 : decode cX10_doWorks 100 = .ok (.bipush 9, 2) := by decide +kernel
theorem dX10_doWorks_102 : decode cX10_doWorks 102 = .ok (.if_icmp .le 8, 3) := by decide +kernel
theorem dX10_doWorks_105 : decode cX10_doWorks 105 = .ok (.bipush 9, 2) := by decide +kernel
theorem dX10_doWorks_107 : decode cX10_doWorks 107 = .ok (.goto 13, 3) := by decide +kernel
theorem dX10_doWorks_110 : decode cX10_doWorks 110 = .ok (.aload_n 0, 1) := by decide +kernel
theorem dX10_doWorks_111 : decode cX10_doWorks 111 = .ok (.getfield 76, 3) := by decide +kernel
theorem dX10_doWorks_114 : decode cX10_doWorks 114 = .ok (.iload 4, 2) := by decide +kernel
theorem dX10_doWorks_116 : decode cX10_doWorks 116 = .ok (.iaload, 1) := by decide +kernel
theorem dX10_doWorks_117 : decode cX10_doWorks 117 = .ok (.iload 5, 2) := by decide +kernel
theorem dX10_doWorks_119 : decode cX10_doWorks 119 = .ok (.iadd, 1) := by decide +kernel
theorem dX10_doWorks_120 : decode cX10_doWorks 120 = .ok (.iastore, 1) := by decide +kernel
theorem dX10_doWorks_121 : decode cX10_doWorks 121 = .ok (.goto 83, 3) := by decide +kernel
theorem dX10_doWorks_124 : decode cX10_doWorks 124 = .ok (.aload_n 0, 1) := by decide +kernel
theorem dX10_doWorks_125 : decode cX10_doWorks 125 = .ok (.getfield 79, 3) := by decide +kernel
theorem dX10_doWorks_128 : decode cX10_doWorks 128 = .ok (.iload 4, 2) := by decide +kernel
theorem dX10_doWorks_130 : decode cX10_doWorks 130 = .ok (.iload 5, 2) := by decide +kernel
theorem dX10_doWorks_132 : decode cX10_doWorks 132 = .ok (.aload_n 0, 1) := by decide +kernel
theorem dX10_doWorks_133 : decode cX10_doWorks 133 = .ok (.getfield 79, 3) := by decide +kernel
theorem dX10_doWorks_136 : decode cX10_doWorks 136 = .ok (.iload 4, 2) := by decide +kernel
theorem dX10_doWorks_138 : decode cX10_doWorks 138 = .ok (.iaload, 1) := by decide +kernel
theorem dX10_doWorks_139 : decode cX10_doWorks 139 = .ok (.if_icmp .le 8, 3) := by decide +kernel
theorem dX10_doWorks_142 : decode cX10_doWorks 142 = .ok (.iload 5, 2) := by decide +kernel
theorem dX10_doWorks_144 : decode cX10_doWorks 144 = .ok (.goto 10, 3) := by decide +kernel
theorem dX10_doWorks_147 : decode cX10_doWorks 147 = .ok (.aload_n 0, 1) := by decide +kernel
theorem dX10_doWorks_148 : decode cX10_doWorks 148 = .ok (.getfield 79, 3) := by decide +kernel
theorem dX10_doWorks_151 : decode cX10_doWorks 151 = .ok (.iload 4, 2) := by decide +kernel
theorem dX10_doWorks_153 : decode cX10_doWorks 153 = .ok (.iaload, 1) := by decide +kernel
theorem dX10_doWorks_154 : decode cX10_doWorks 154 = .ok (.iastore, 1) := by decide +kernel
theorem dX10_doWorks_155 : decode cX10_doWorks 155 = .ok (.goto 49, 3) := by decide +kernel
theorem dX10_doWorks_158 : decode cX10_doWorks 158 = .ok (.aload_n 0, 1) := by decide +kernel
theorem dX10_doWorks_159 : decode cX10_doWorks 159 = .ok (.getfield 85, 3) := by decide +kernel
theorem dX10_doWorks_162 : decode cX10_doWorks 162 = .ok (.iload 4, 2) := by decide +kernel
theorem dX10_doWorks_164 : decode cX10_doWorks 164 = .ok (.aload_n 0, 1) := by decide +kernel
theorem dX10_doWorks_165 : decode cX10_doWorks 165 = .ok (.getfield 85, 3) := by decide +kernel
theorem dX10_doWorks_168 : decode cX10_doWorks 168 = .ok (.iload 4, 2) := by decide +kernel
theorem dX10_doWorks_170 : decode cX10_doWorks 170 = .ok (.iaload, 1) := by decide +kernel
theorem dX10_doWorks_171 : decode cX10_doWorks 171 = .ok (.iload 5, 2) := by decide +kernel
theorem dX10_doWorks_173 : decode cX10_doWorks 173 = .ok (.isub, 1) := by decide +kernel
theorem dX10_doWorks_174 : decode cX10_doWorks 174 = .ok (.iconst 1, 1) := by decide +kernel
theorem dX10_doWorks_175 : decode cX10_doWorks 175 = .ok (.if_icmp .ge 7, 3) := by decide +kernel
theorem dX10_doWorks_178 : decode cX10_doWorks 178 = .ok (.iconst 1, 1) := by decide +kernel
theorem dX10_doWorks_179 : decode cX10_doWorks 179 = .ok (.goto 13, 3) := by decide +kernel
theorem dX10_doWorks_182 : decode cX10_doWorks 182 = .ok (.aload_n 0, 1) := by decide +kernel
theorem dX10_doWorks_183 : decode cX10_doWorks 183 = .ok (.getfield 85, 3) := by decide +kernel
theorem dX10_doWorks_186 : decode cX10_doWorks 186 = .ok (.iload 4, 2) := by decide +kernel
theorem dX10_doWorks_188 : decode cX10_doWorks 188 = .ok (.iaload, 1) := by decide +kernel
theorem dX10_doWorks_189 : decode cX10_doWorks 189 = .ok (.iload 5, 2) := by decide +kernel
theorem dX10_doWorks_191 : decode cX10_doWorks 191 = .ok (.isub, 1) := by decide +kernel
