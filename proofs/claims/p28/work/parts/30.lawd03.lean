theorem dL_texts_102 : decode cL_texts 102 = .ok (.ireturn, 1) := by decide +kernel
theorem dL_texts_103 : decode cL_texts 103 = .ok (.ldc2_w 138, 3) := by decide +kernel
theorem dL_texts_106 : decode cL_texts 106 = .ok (.lconst 0, 1) := by decide +kernel
theorem dL_texts_107 : decode cL_texts 107 = .ok (.invokestatic 116, 3) := by decide +kernel
theorem dL_texts_110 : decode cL_texts 110 = .ok (.ifCond .ne 70, 3) := by decide +kernel
theorem dL_texts_113 : decode cL_texts 113 = .ok (.ldc2_w 140, 3) := by decide +kernel
theorem dL_texts_116 : decode cL_texts 116 = .ok (.lconst 0, 1) := by decide +kernel
theorem dL_texts_117 : decode cL_texts 117 = .ok (.invokestatic 116, 3) := by decide +kernel
theorem dL_texts_120 : decode cL_texts 120 = .ok (.iconst 4, 1) := by decide +kernel
theorem dL_texts_121 : decode cL_texts 121 = .ok (.if_icmp .ne 59, 3) := by decide +kernel
theorem dL_texts_124 : decode cL_texts 124 = .ok (.ldc2_w 142, 3) := by decide +kernel
theorem dL_texts_127 : decode cL_texts 127 = .ok (.lconst 0, 1) := by decide +kernel
theorem dL_texts_128 : decode cL_texts 128 = .ok (.invokestatic 116, 3) := by decide +kernel
theorem dL_texts_131 : decode cL_texts 131 = .ok (.iconst (-1), 1) := by decide +kernel
theorem dL_texts_132 : decode cL_texts 132 = .ok (.if_icmp .ne 48, 3) := by decide +kernel
theorem dL_texts_135 : decode cL_texts 135 = .ok (.ldc2_w 144, 3) := by decide +kernel
theorem dL_texts_138 : decode cL_texts 138 = .ok (.lconst 0, 1) := by decide +kernel
theorem dL_texts_139 : decode cL_texts 139 = .ok (.invokestatic 116, 3) := by decide +kernel
theorem dL_texts_142 : decode cL_texts 142 = .ok (.iconst 3, 1) := by decide +kernel
theorem dL_texts_143 : decode cL_texts 143 = .ok (.if_icmp .ne 37, 3) := by decide +kernel
theorem dL_texts_146 : decode cL_texts 146 = .ok (.ldc2_w 146, 3) := by decide +kernel
theorem dL_texts_149 : decode cL_texts 149 = .ok (.lconst 0, 1) := by decide +kernel
theorem dL_texts_150 : decode cL_texts 150 = .ok (.invokestatic 116, 3) := by decide +kernel
theorem dL_texts_153 : decode cL_texts 153 = .ok (.bipush 8, 2) := by decide +kernel
theorem dL_texts_155 : decode cL_texts 155 = .ok (.if_icmp .ne 25, 3) := by decide +kernel
theorem dL_texts_158 : decode cL_texts 158 = .ok (.ldc2_w 148, 3) := by decide +kernel
theorem dL_texts_161 : decode cL_texts 161 = .ok (.lconst 0, 1) := by decide +kernel
theorem dL_texts_162 : decode cL_texts 162 = .ok (.invokestatic 116, 3) := by decide +kernel
theorem dL_texts_165 : decode cL_texts 165 = .ok (.iconst 4, 1) := by decide +kernel
theorem dL_texts_166 : decode cL_texts 166 = .ok (.if_icmp .ne 14, 3) := by decide +kernel
theorem dL_texts_169 : decode cL_texts 169 = .ok (.ldc2_w 150, 3) := by decide +kernel
theorem dL_texts_172 : decode cL_texts 172 = .ok (.lconst 0, 1) := by decide +kernel
theorem dL_texts_173 : decode cL_texts 173 = .ok (.invokestatic 116, 3) := by decide +kernel
theorem dL_texts_176 : decode cL_texts 176 = .ok (.iconst 4, 1) := by decide +kernel
theorem dL_texts_177 : decode cL_texts 177 = .ok (.if_icmp .eq 5, 3) := by decide +kernel
theorem dL_texts_180 : decode cL_texts 180 = .ok (.iconst 0, 1) := by decide +kernel
theorem dL_texts_181 : decode cL_texts 181 = .ok (.ireturn, 1) := by decide +kernel
theorem dL_texts_182 : decode cL_texts 182 = .ok (.new 14, 3) := by decide +kernel
theorem dL_texts_185 : decode cL_texts 185 = .ok (.dup, 1) := by decide +kernel
theorem dL_texts_186 : decode cL_texts 186 = .ok (.invokespecial 86, 3) := by decide +kernel
theorem dL_texts_189 : decode cL_texts 189 = .ok (.astore_n 0, 1) := by decide +kernel
theorem dL_texts_190 : decode cL_texts 190 = .ok (.aload_n 0, 1) := by decide +kernel
theorem dL_texts_191 : decode cL_texts 191 = .ok (.iconst 2, 1) := by decide +kernel
theorem dL_texts_192 : decode cL_texts 192 = .ok (.bipush 9, 2) := by decide +kernel
theorem dL_texts_194 : decode cL_texts 194 = .ok (.invokevirtual 33, 3) := by decide +kernel
theorem dL_texts_197 : decode cL_texts 197 = .ok (.ifCond .ne 113, 3) := by decide +kernel
theorem dL_texts_200 : decode cL_texts 200 = .ok (.aload_n 0, 1) := by decide +kernel
theorem dL_texts_201 : decode cL_texts 201 = .ok (.iconst 2, 1) := by decide +kernel
theorem dL_texts_202 : decode cL_texts 202 = .ok (.bipush 9, 2) := by decide +kernel
theorem dL_texts_204 : decode cL_texts 204 = .ok (.invokevirtual 33, 3) := by decide +kernel
theorem dL_texts_207 : decode cL_texts 207 = .ok (.iconst 1, 1) := by decide +kernel
theorem dL_texts_208 : decode cL_texts 208 = .ok (.if_icmp .ne 102, 3) := by decide +kernel
theorem dL_texts_211 : decode cL_texts 211 = .ok (.aload_n 0, 1) := by decide +kernel
theorem dL_texts_212 : decode cL_texts 212 = .ok (.iconst 2, 1) := by decide +kernel
theorem dL_texts_213 : decode cL_texts 213 = .ok (.bipush 99, 2) := by decide +kernel
theorem dL_texts_215 : decode cL_texts 215 = .ok (.invokevirtual 38, 3) := by decide +kernel
theorem dL_texts_218 : decode cL_texts 218 = .ok (.ifCond .ne 92, 3) := by decide +kernel
theorem dL_texts_221 : decode cL_texts 221 = .ok (.aload_n 0, 1) := by decide +kernel
theorem dL_texts_222 : decode cL_texts 222 = .ok (.ldc2_w 152, 3) := by decide +kernel
theorem dL_texts_225 : decode cL_texts 225 = .ok (.invokestatic 101, 3) := by decide +kernel
theorem dL_texts_228 : decode cL_texts 228 = .ok (.ifCond .eq 82, 3) := by decide +kernel
theorem dL_texts_231 : decode cL_texts 231 = .ok (.aload_n 0, 1) := by decide +kernel
theorem dL_texts_232 : decode cL_texts 232 = .ok (.invokevirtual 109, 3) := by decide +kernel
theorem dL_texts_235 : decode cL_texts 235 = .ok (.bipush (-2), 2) := by decide +kernel
theorem dL_texts_237 : decode cL_texts 237 = .ok (.if_icmp .ne 73, 3) := by decide +kernel
theorem dL_texts_240 : decode cL_texts 240 = .ok (.aload_n 0, 1) := by decide +kernel
theorem dL_texts_241 : decode cL_texts 241 = .ok (.invokevirtual 154, 3) := by decide +kernel
theorem dL_texts_244 : decode cL_texts 244 = .ok (.iconst 5, 1) := by decide +kernel
theorem dL_texts_245 : decode cL_texts 245 = .ok (.if_icmp .ne 65, 3) := by decide +kernel
theorem dL_texts_248 : decode cL_texts 248 = .ok (.aload_n 0, 1) := by decide +kernel
theorem dL_texts_249 : decode cL_texts 249 = .ok (.ldc2_w 157, 3) := by decide +kernel
theorem dL_texts_252 : decode cL_texts 252 = .ok (.invokestatic 101, 3) := by decide +kernel
theorem dL_texts_255 : decode cL_texts 255 = .ok (.ifCond .eq 55, 3) := by decide +kernel
theorem dL_texts_258 : decode cL_texts 258 = .ok (.aload_n 0, 1) := by decide +kernel
theorem dL_texts_259 : decode cL_texts 259 = .ok (.invokevirtual 109, 3) := by decide +kernel
theorem dL_texts_262 : decode cL_texts 262 = .ok (.iconst (-1), 1) := by decide +kernel
theorem dL_texts_263 : decode cL_texts 263 = .ok (.if_icmp .ne 47, 3) := by decide +kernel
theorem dL_texts_266 : decode cL_texts 266 = .ok (.aload_n 0, 1) := by decide +kernel
theorem dL_texts_267 : decode cL_texts 267 = .ok (.invokevirtual 154, 3) := by decide +kernel
theorem dL_texts_270 : decode cL_texts 270 = .ok (.iconst 5, 1) := by decide +kernel
theorem dL_texts_271 : decode cL_texts 271 = .ok (.if_icmp .ne 39, 3) := by decide +kernel
theorem dL_texts_274 : decode cL_texts 274 = .ok (.aload_n 0, 1) := by decide +kernel
theorem dL_texts_275 : decode cL_texts 275 = .ok (.ldc2_w 159, 3) := by decide +kernel
theorem dL_texts_278 : decode cL_texts 278 = .ok (.invokestatic 101, 3) := by decide +kernel
theorem dL_texts_281 : decode cL_texts 281 = .ok (.ifCond .eq 29, 3) := by decide +kernel
theorem dL_texts_284 : decode cL_texts 284 = .ok (.aload_n 0, 1) := by decide +kernel
theorem dL_texts_285 : decode cL_texts 285 = .ok (.invokevirtual 109, 3) := by decide +kernel
theorem dL_texts_288 : decode cL_texts 288 = .ok (.iconst (-1), 1) := by decide +kernel
theorem dL_texts_289 : decode cL_texts 289 = .ok (.if_icmp .ne 21, 3) := by decide +kernel
theorem dL_texts_292 : decode cL_texts 292 = .ok (.aload_n 0, 1) := by decide +kernel
theorem dL_texts_293 : decode cL_texts 293 = .ok (.invokevirtual 154, 3) := by decide +kernel
theorem dL_texts_296 : decode cL_texts 296 = .ok (.iconst 5, 1) := by decide +kernel
theorem dL_texts_297 : decode cL_texts 297 = .ok (.if_icmp .ne 13, 3) := by decide +kernel
theorem dL_texts_300 : decode cL_texts 300 = .ok (.aload_n 0, 1) := by decide +kernel
theorem dL_texts_301 : decode cL_texts 301 = .ok (.bipush 11, 2) := by decide +kernel
theorem dL_texts_303 : decode cL_texts 303 = .ok (.invokevirtual 13, 3) := by decide +kernel
theorem dL_texts_306 : decode cL_texts 306 = .ok (.iconst 3, 1) := by decide +kernel
theorem dL_texts_307 : decode cL_texts 307 = .ok (.if_icmp .eq 5, 3) := by decide +kernel
theorem dL_texts_310 : decode cL_texts 310 = .ok (.iconst 0, 1) := by decide +kernel
theorem dL_texts_311 : decode cL_texts 311 = .ok (.ireturn, 1) := by decide +kernel
theorem dL_texts_312 : decode cL_texts 312 = .ok (.aload_n 0, 1) := by decide +kernel
theorem dL_texts_313 : decode cL_texts 313 = .ok (.ldc2_w 161, 3) := by decide +kernel
theorem dL_texts_316 : decode cL_texts 316 = .ok (.invokestatic 101, 3) := by decide +kernel
theorem dL_texts_319 : decode cL_texts 319 = .ok (.ifCond .eq 71, 3) := by decide +kernel
theorem dL_texts_322 : decode cL_texts 322 = .ok (.aload_n 0, 1) := by decide +kernel
theorem dL_texts_323 : decode cL_texts 323 = .ok (.ldc2_w 163, 3) := by decide +kernel
theorem dL_texts_326 : decode cL_texts 326 = .ok (.invokestatic 101, 3) := by decide +kernel
theorem dL_texts_329 : decode cL_texts 329 = .ok (.ifCond .eq 61, 3) := by decide +kernel
theorem dL_texts_332 : decode cL_texts 332 = .ok (.aload_n 0, 1) := by decide +kernel
theorem dL_texts_333 : decode cL_texts 333 = .ok (.invokevirtual 109, 3) := by decide +kernel
theorem dL_texts_336 : decode cL_texts 336 = .ok (.iconst 2, 1) := by decide +kernel
theorem dL_texts_337 : decode cL_texts 337 = .ok (.if_icmp .ne 53, 3) := by decide +kernel
theorem dL_texts_340 : decode cL_texts 340 = .ok (.aload_n 0, 1) := by decide +kernel
theorem dL_texts_341 : decode cL_texts 341 = .ok (.bipush 11, 2) := by decide +kernel
theorem dL_texts_343 : decode cL_texts 343 = .ok (.invokevirtual 13, 3) := by decide +kernel
theorem dL_texts_346 : decode cL_texts 346 = .ok (.iconst 4, 1) := by decide +kernel
theorem dL_texts_347 : decode cL_texts 347 = .ok (.if_icmp .ne 43, 3) := by decide +kernel
theorem dL_texts_350 : decode cL_texts 350 = .ok (.aload_n 0, 1) := by decide +kernel
theorem dL_texts_351 : decode cL_texts 351 = .ok (.iconst 0, 1) := by decide +kernel
theorem dL_texts_352 : decode cL_texts 352 = .ok (.iconst 5, 1) := by decide +kernel
theorem dL_texts_353 : decode cL_texts 353 = .ok (.invokevirtual 23, 3) := by decide +kernel
theorem dL_texts_356 : decode cL_texts 356 = .ok (.iconst 1, 1) := by decide +kernel
theorem dL_texts_357 : decode cL_texts 357 = .ok (.if_icmp .ne 33, 3) := by decide +kernel
theorem dL_texts_360 : decode cL_texts 360 = .ok (.aload_n 0, 1) := by decide +kernel
theorem dL_texts_361 : decode cL_texts 361 = .ok (.iconst 0, 1) := by decide +kernel
theorem dL_texts_362 : decode cL_texts 362 = .ok (.iconst 0, 1) := by decide +kernel
theorem dL_texts_363 : decode cL_texts 363 = .ok (.invokevirtual 26, 3) := by decide +kernel
theorem dL_texts_366 : decode cL_texts 366 = .ok (.iconst 1, 1) := by decide +kernel
theorem dL_texts_367 : decode cL_texts 367 = .ok (.if_icmp .ne 23, 3) := by decide +kernel
theorem dL_texts_370 : decode cL_texts 370 = .ok (.aload_n 0, 1) := by decide +kernel
theorem dL_texts_371 : decode cL_texts 371 = .ok (.iconst 0, 1) := by decide +kernel
theorem dL_texts_372 : decode cL_texts 372 = .ok (.iconst 1, 1) := by decide +kernel
theorem dL_texts_373 : decode cL_texts 373 = .ok (.invokevirtual 26, 3) := by decide +kernel
theorem dL_texts_376 : decode cL_texts 376 = .ok (.bipush (-5), 2) := by decide +kernel
theorem dL_texts_378 : decode cL_texts 378 = .ok (.if_icmp .ne 12, 3) := by decide +kernel
theorem dL_texts_381 : decode cL_texts 381 = .ok (.aload_n 0, 1) := by decide +kernel
theorem dL_texts_382 : decode cL_texts 382 = .ok (.invokevirtual 154, 3) := by decide +kernel
theorem dL_texts_385 : decode cL_texts 385 = .ok (.bipush 9, 2) := by decide +kernel
theorem dL_texts_387 : decode cL_texts 387 = .ok (.if_icmp .eq 5, 3) := by decide +kernel
theorem dL_texts_390 : decode cL_texts 390 = .ok (.iconst 0, 1) := by decide +kernel
theorem dL_texts_391 : decode cL_texts 391 = .ok (.ireturn, 1) := by decide +kernel
theorem dL_texts_392 : decode cL_texts 392 = .ok (.iconst 0, 1) := by decide +kernel
theorem dL_texts_393 : decode cL_texts 393 = .ok (.istore_n 1, 1) := by decide +kernel
theorem dL_texts_394 : decode cL_texts 394 = .ok (.iload_n 1, 1) := by decide +kernel
theorem dL_texts_395 : decode cL_texts 395 = .ok (.bipush 60, 2) := by decide +kernel
theorem dL_texts_397 : decode cL_texts 397 = .ok (.if_icmp .ge 23, 3) := by decide +kernel
theorem dL_texts_400 : decode cL_texts 400 = .ok (.aload_n 0, 1) := by decide +kernel
theorem dL_texts_401 : decode cL_texts 401 = .ok (.bipush 49, 2) := by decide +kernel
theorem dL_texts_403 : decode cL_texts 403 = .ok (.invokevirtual 82, 3) := by decide +kernel
theorem dL_texts_406 : decode cL_texts 406 = .ok (.iload_n 1, 1) := by decide +kernel
theorem dL_texts_407 : decode cL_texts 407 = .ok (.iconst 1, 1) := by decide +kernel
theorem dL_texts_408 : decode cL_texts 408 = .ok (.iadd, 1) := by decide +kernel
theorem dL_texts_409 : decode cL_texts 409 = .ok (.if_icmp .eq 5, 3) := by decide +kernel
theorem dL_texts_412 : decode cL_texts 412 = .ok (.iconst 0, 1) := by decide +kernel
theorem dL_texts_413 : decode cL_texts 413 = .ok (.ireturn, 1) := by decide +kernel
theorem dL_texts_414 : decode cL_texts 414 = .ok (.iinc 1 1, 3) := by decide +kernel
theorem dL_texts_417 : decode cL_texts 417 = .ok (.goto (-23), 3) := by decide +kernel
theorem dL_texts_420 : decode cL_texts 420 = .ok (.aload_n 0, 1) := by decide +kernel
theorem dL_texts_421 : decode cL_texts 421 = .ok (.bipush 49, 2) := by decide +kernel
theorem dL_texts_423 : decode cL_texts 423 = .ok (.invokevirtual 82, 3) := by decide +kernel
theorem dL_texts_426 : decode cL_texts 426 = .ok (.bipush (-3), 2) := by decide +kernel
theorem dL_texts_428 : decode cL_texts 428 = .ok (.if_icmp .ne 25, 3) := by decide +kernel
theorem dL_texts_431 : decode cL_texts 431 = .ok (.aload_n 0, 1) := by decide +kernel
theorem dL_texts_432 : decode cL_texts 432 = .ok (.invokevirtual 109, 3) := by decide +kernel
theorem dL_texts_435 : decode cL_texts 435 = .ok (.bipush (-102), 2) := by decide +kernel
theorem dL_texts_437 : decode cL_texts 437 = .ok (.if_icmp .ne 16, 3) := by decide +kernel
theorem dL_texts_440 : decode cL_texts 440 = .ok (.aload_n 0, 1) := by decide +kernel
theorem dL_texts_441 : decode cL_texts 441 = .ok (.invokevirtual 154, 3) := by decide +kernel
theorem dL_texts_444 : decode cL_texts 444 = .ok (.bipush 60, 2) := by decide +kernel
theorem dL_texts_446 : decode cL_texts 446 = .ok (.if_icmp .ne 7, 3) := by decide +kernel
theorem dL_texts_449 : decode cL_texts 449 = .ok (.iconst 1, 1) := by decide +kernel
theorem dL_texts_450 : decode cL_texts 450 = .ok (.goto 4, 3) := by decide +kernel
theorem dL_texts_453 : decode cL_texts 453 = .ok (.iconst 0, 1) := by decide +kernel
theorem dL_texts_454 : decode cL_texts 454 = .ok (.ireturn, 1) := by decide +kernel
theorem dL_law_0 : decode cL_law 0 = .ok (.invokestatic 165, 3) := by decide +kernel
theorem dL_law_3 : decode cL_law 3 = .ok (.ifCond .eq 9, 3) := by decide +kernel
theorem dL_law_6 : decode cL_law 6 = .ok (.invokestatic 169, 3) := by decide +kernel
theorem dL_law_9 : decode cL_law 9 = .ok (.ifCond .ne 5, 3) := by decide +kernel
theorem dL_law_12 : decode cL_law 12 = .ok (.iconst 0, 1) := by decide +kernel
theorem dL_law_13 : decode cL_law 13 = .ok (.ireturn, 1) := by decide +kernel
theorem dL_law_14 : decode cL_law 14 = .ok (.new 14, 3) := by decide +kernel
theorem dL_law_17 : decode cL_law 17 = .ok (.dup, 1) := by decide +kernel
theorem dL_law_18 : decode cL_law 18 = .ok (.invokespecial 86, 3) := by decide +kernel
theorem dL_law_21 : decode cL_law 21 = .ok (.astore_n 1, 1) := by decide +kernel
theorem dL_law_22 : decode cL_law 22 = .ok (.bipush 64, 2) := by decide +kernel
theorem dL_law_24 : decode cL_law 24 = .ok (.newarray .long, 2) := by decide +kernel
theorem dL_law_26 : decode cL_law 26 = .ok (.astore_n 2, 1) := by decide +kernel
theorem dL_law_27 : decode cL_law 27 = .ok (.iconst 0, 1) := by decide +kernel
theorem dL_law_28 : decode cL_law 28 = .ok (.istore_n 3, 1) := by decide +kernel
theorem dL_law_29 : decode cL_law 29 = .ok (.iconst 0, 1) := by decide +kernel
theorem dL_law_30 : decode cL_law 30 = .ok (.istore 4, 2) := by decide +kernel
theorem dL_law_32 : decode cL_law 32 = .ok (.iload 4, 2) := by decide +kernel
theorem dL_law_34 : decode cL_law 34 = .ok (.bipush 40, 2) := by decide +kernel
theorem dL_law_36 : decode cL_law 36 = .ok (.if_icmp .ge 345, 3) := by decide +kernel
theorem dL_law_39 : decode cL_law 39 = .ok (.aload_n 0, 1) := by decide +kernel
theorem dL_law_40 : decode cL_law 40 = .ok (.iload 4, 2) := by decide +kernel
theorem dL_law_42 : decode cL_law 42 = .ok (.invokestatic 172, 3) := by decide +kernel
theorem dL_law_45 : decode cL_law 45 = .ok (.istore 5, 2) := by decide +kernel
theorem dL_law_47 : decode cL_law 47 = .ok (.iload 4, 2) := by decide +kernel
theorem dL_law_49 : decode cL_law 49 = .ok (.iconst 4, 1) := by decide +kernel
theorem dL_law_50 : decode cL_law 50 = .ok (.if_icmp .ge 7, 3) := by decide +kernel
theorem dL_law_53 : decode cL_law 53 = .ok (.iconst 0, 1) := by decide +kernel
theorem dL_law_54 : decode cL_law 54 = .ok (.goto 21, 3) := by decide +kernel
theorem dL_law_57 : decode cL_law 57 = .ok (.iload 4, 2) := by decide +kernel
theorem dL_law_59 : decode cL_law 59 = .ok (.bipush 8, 2) := by decide +kernel
theorem dL_law_61 : decode cL_law 61 = .ok (.if_icmp .ge 7, 3) := by decide +kernel
theorem dL_law_64 : decode cL_law 64 = .ok (.iconst 1, 1) := by decide +kernel
theorem dL_law_65 : decode cL_law 65 = .ok (.goto 10, 3) := by decide +kernel
theorem dL_law_68 : decode cL_law 68 = .ok (.iload 5, 2) := by decide +kernel
theorem dL_law_70 : decode cL_law 70 = .ok (.bipush 11, 2) := by decide +kernel
theorem dL_law_72 : decode cL_law 72 = .ok (.invokestatic 176, 3) := by decide +kernel
theorem dL_law_75 : decode cL_law 75 = .ok (.istore 6, 2) := by decide +kernel
theorem dL_law_77 : decode cL_law 77 = .ok (.aload_n 2, 1) := by decide +kernel
theorem dL_law_78 : decode cL_law 78 = .ok (.iload_n 3, 1) := by decide +kernel
theorem dL_law_79 : decode cL_law 79 = .ok (.aload_n 1, 1) := by decide +kernel
theorem dL_law_80 : decode cL_law 80 = .ok (.invokestatic 72, 3) := by decide +kernel
theorem dL_law_83 : decode cL_law 83 = .ok (.lastore, 1) := by decide +kernel
theorem dL_law_84 : decode cL_law 84 = .ok (.aload_n 1, 1) := by decide +kernel
theorem dL_law_85 : decode cL_law 85 = .ok (.bipush 11, 2) := by decide +kernel
theorem dL_law_87 : decode cL_law 87 = .ok (.invokevirtual 13, 3) := by decide +kernel
theorem dL_law_90 : decode cL_law 90 = .ok (.istore 7, 2) := by decide +kernel
theorem dL_law_92 : decode cL_law 92 = .ok (.iload 5, 2) := by decide +kernel
theorem dL_law_94 : decode cL_law 94 = .ok (.iconst 4, 1) := by decide +kernel
theorem dL_law_95 : decode cL_law 95 = .ok (.ishr, 1) := by decide +kernel
theorem dL_law_96 : decode cL_law 96 = .ok (.bipush 6, 2) := by decide +kernel
theorem dL_law_98 : decode cL_law 98 = .ok (.invokestatic 176, 3) := by decide +kernel
theorem dL_law_101 : decode cL_law 101 = .ok (.istore 8, 2) := by decide +kernel
theorem dL_law_103 : decode cL_law 103 = .ok (.iload 5, 2) := by decide +kernel
theorem dL_law_105 : decode cL_law 105 = .ok (.bipush 7, 2) := by decide +kernel
theorem dL_law_107 : decode cL_law 107 = .ok (.ishr, 1) := by decide +kernel
theorem dL_law_108 : decode cL_law 108 = .ok (.bipush 6, 2) := by decide +kernel
theorem dL_law_110 : decode cL_law 110 = .ok (.invokestatic 176, 3) := by decide +kernel
theorem dL_law_113 : decode cL_law 113 = .ok (.istore 9, 2) := by decide +kernel
theorem dL_law_115 : decode cL_law 115 = .ok (.iload 6, 2) := by decide +kernel
theorem dL_law_117 : decode cL_law 117 = .ok (.ifCond .ne 34, 3) := by decide +kernel
theorem dL_law_120 : decode cL_law 120 = .ok (.aload_n 1, 1) := by decide +kernel
theorem dL_law_121 : decode cL_law 121 = .ok (.iconst 1, 1) := by decide +kernel
theorem dL_law_122 : decode cL_law 122 = .ok (.iload 5, 2) := by decide +kernel
theorem dL_law_124 : decode cL_law 124 = .ok (.bipush 10, 2) := by decide +kernel
theorem dL_law_126 : decode cL_law 126 = .ok (.ishr, 1) := by decide +kernel
theorem dL_law_127 : decode cL_law 127 = .ok (.iconst 4, 1) := by decide +kernel
theorem dL_law_128 : decode cL_law 128 = .ok (.invokestatic 176, 3) := by decide +kernel
theorem dL_law_131 : decode cL_law 131 = .ok (.iadd, 1) := by decide +kernel
theorem dL_law_132 : decode cL_law 132 = .ok (.iconst 1, 1) := by decide +kernel
theorem dL_law_133 : decode cL_law 133 = .ok (.iload 5, 2) := by decide +kernel
theorem dL_law_135 : decode cL_law 135 = .ok (.bipush 12, 2) := by decide +kernel
theorem dL_law_137 : decode cL_law 137 = .ok (.ishr, 1) := by decide +kernel
theorem dL_law_138 : decode cL_law 138 = .ok (.sipush 300, 3) := by decide +kernel
theorem dL_law_141 : decode cL_law 141 = .ok (.invokestatic 176, 3) := by decide +kernel
theorem dL_law_144 : decode cL_law 144 = .ok (.iadd, 1) := by decide +kernel
theorem dL_law_145 : decode cL_law 145 = .ok (.invokevirtual 33, 3) := by decide +kernel
theorem dL_law_148 : decode cL_law 148 = .ok (.goto 183, 3) := by decide +kernel
theorem dL_law_151 : decode cL_law 151 = .ok (.iload 6, 2) := by decide +kernel
theorem dL_law_153 : decode cL_law 153 = .ok (.iconst 1, 1) := by decide +kernel
theorem dL_law_154 : decode cL_law 154 = .ok (.if_icmp .ne 37, 3) := by decide +kernel
theorem dL_law_157 : decode cL_law 157 = .ok (.aload_n 1, 1) := by decide +kernel
theorem dL_law_158 : decode cL_law 158 = .ok (.iconst 1, 1) := by decide +kernel
theorem dL_law_159 : decode cL_law 159 = .ok (.iload 5, 2) := by decide +kernel
theorem dL_law_161 : decode cL_law 161 = .ok (.bipush 10, 2) := by decide +kernel
theorem dL_law_163 : decode cL_law 163 = .ok (.ishr, 1) := by decide +kernel
theorem dL_law_164 : decode cL_law 164 = .ok (.bipush 6, 2) := by decide +kernel
theorem dL_law_166 : decode cL_law 166 = .ok (.invokestatic 176, 3) := by decide +kernel
theorem dL_law_169 : decode cL_law 169 = .ok (.iadd, 1) := by decide +kernel
theorem dL_law_170 : decode cL_law 170 = .ok (.sipush 400, 3) := by decide +kernel
theorem dL_law_173 : decode cL_law 173 = .ok (.iload 5, 2) := by decide +kernel
theorem dL_law_175 : decode cL_law 175 = .ok (.bipush 12, 2) := by decide +kernel
theorem dL_law_177 : decode cL_law 177 = .ok (.ishr, 1) := by decide +kernel
theorem dL_law_178 : decode cL_law 178 = .ok (.sipush 900, 3) := by decide +kernel
theorem dL_law_181 : decode cL_law 181 = .ok (.invokestatic 176, 3) := by decide +kernel
theorem dL_law_184 : decode cL_law 184 = .ok (.iadd, 1) := by decide +kernel
theorem dL_law_185 : decode cL_law 185 = .ok (.invokevirtual 38, 3) := by decide +kernel
theorem dL_law_188 : decode cL_law 188 = .ok (.goto 143, 3) := by decide +kernel
theorem dL_law_191 : decode cL_law 191 = .ok (.iload 6, 2) := by decide +kernel
theorem dL_law_193 : decode cL_law 193 = .ok (.iconst 5, 1) := by decide +kernel
theorem dL_law_194 : decode cL_law 194 = .ok (.if_icmp .ge 14, 3) := by decide +kernel
theorem dL_law_197 : decode cL_law 197 = .ok (.aload_n 1, 1) := by decide +kernel
theorem dL_law_198 : decode cL_law 198 = .ok (.iload 8, 2) := by decide +kernel
theorem dL_law_200 : decode cL_law 200 = .ok (.iload 9, 2) := by decide +kernel
theorem dL_law_202 : decode cL_law 202 = .ok (.invokevirtual 45, 3) := by decide +kernel
theorem dL_law_205 : decode cL_law 205 = .ok (.goto 126, 3) := by decide +kernel
theorem dL_law_208 : decode cL_law 208 = .ok (.iload 6, 2) := by decide +kernel
theorem dL_law_210 : decode cL_law 210 = .ok (.iconst 5, 1) := by decide +kernel
theorem dL_law_211 : decode cL_law 211 = .ok (.if_icmp .ne 24, 3) := by decide +kernel
theorem dL_law_214 : decode cL_law 214 = .ok (.aload_n 1, 1) := by decide +kernel
theorem dL_law_215 : decode cL_law 215 = .ok (.iload 8, 2) := by decide +kernel
theorem dL_law_217 : decode cL_law 217 = .ok (.iconst 1, 1) := by decide +kernel
theorem dL_law_218 : decode cL_law 218 = .ok (.iload 5, 2) := by decide +kernel
theorem dL_law_220 : decode cL_law 220 = .ok (.bipush 7, 2) := by decide +kernel
theorem dL_law_222 : decode cL_law 222 = .ok (.ishr, 1) := by decide +kernel
theorem dL_law_223 : decode cL_law 223 = .ok (.bipush 99, 2) := by decide +kernel
theorem dL_law_225 : decode cL_law 225 = .ok (.invokestatic 176, 3) := by decide +kernel
theorem dL_law_228 : decode cL_law 228 = .ok (.iadd, 1) := by decide +kernel
theorem dL_law_229 : decode cL_law 229 = .ok (.invokevirtual 51, 3) := by decide +kernel
theorem dL_law_232 : decode cL_law 232 = .ok (.goto 99, 3) := by decide +kernel
theorem dL_law_235 : decode cL_law 235 = .ok (.iload 6, 2) := by decide +kernel
theorem dL_law_237 : decode cL_law 237 = .ok (.bipush 8, 2) := by decide +kernel
theorem dL_law_239 : decode cL_law 239 = .ok (.if_icmp .ge 10, 3) := by decide +kernel
theorem dL_law_242 : decode cL_law 242 = .ok (.aload_n 1, 1) := by decide +kernel
theorem dL_law_243 : decode cL_law 243 = .ok (.invokevirtual 93, 3) := by decide +kernel
theorem dL_law_246 : decode cL_law 246 = .ok (.goto 85, 3) := by decide +kernel
theorem dL_law_249 : decode cL_law 249 = .ok (.iload 6, 2) := by decide +kernel
theorem dL_law_251 : decode cL_law 251 = .ok (.bipush 8, 2) := by decide +kernel
theorem dL_law_253 : decode cL_law 253 = .ok (.if_icmp .ne 21, 3) := by decide +kernel
theorem dL_law_256 : decode cL_law 256 = .ok (.aload_n 1, 1) := by decide +kernel
theorem dL_law_257 : decode cL_law 257 = .ok (.iload 8, 2) := by decide +kernel
theorem dL_law_259 : decode cL_law 259 = .ok (.iload 5, 2) := by decide +kernel
theorem dL_law_261 : decode cL_law 261 = .ok (.bipush 7, 2) := by decide +kernel
theorem dL_law_263 : decode cL_law 263 = .ok (.ishr, 1) := by decide +kernel
theorem dL_law_264 : decode cL_law 264 = .ok (.iconst 3, 1) := by decide +kernel
theorem dL_law_265 : decode cL_law 265 = .ok (.invokestatic 176, 3) := by decide +kernel
theorem dL_law_268 : decode cL_law 268 = .ok (.invokevirtual 57, 3) := by decide +kernel
theorem dL_law_271 : decode cL_law 271 = .ok (.goto 60, 3) := by decide +kernel
theorem dL_law_274 : decode cL_law 274 = .ok (.iload 6, 2) := by decide +kernel
theorem dL_law_276 : decode cL_law 276 = .ok (.bipush 9, 2) := by decide +kernel
theorem dL_law_278 : decode cL_law 278 = .ok (.if_icmp .ne 10, 3) := by decide +kernel
theorem dL_law_281 : decode cL_law 281 = .ok (.aload_n 1, 1) := by decide +kernel
theorem dL_law_282 : decode cL_law 282 = .ok (.invokevirtual 96, 3) := by decide +kernel
theorem dL_law_285 : decode cL_law 285 = .ok (.goto 46, 3) := by decide +kernel
theorem dL_law_288 : decode cL_law 288 = .ok (.iload 5, 2) := by decide +kernel
theorem dL_law_290 : decode cL_law 290 = .ok (.bipush 10, 2) := by decide +kernel
theorem dL_law_292 : decode cL_law 292 = .ok (.ishr, 1) := by decide +kernel
theorem dL_law_293 : decode cL_law 293 = .ok (.iconst 2, 1) := by decide +kernel
theorem dL_law_294 : decode cL_law 294 = .ok (.invokestatic 176, 3) := by decide +kernel
theorem dL_law_297 : decode cL_law 297 = .ok (.ifCond .ne 12, 3) := by decide +kernel
theorem dL_law_300 : decode cL_law 300 = .ok (.aload_n 1, 1) := by decide +kernel
theorem dL_law_301 : decode cL_law 301 = .ok (.iload 8, 2) := by decide +kernel
theorem dL_law_303 : decode cL_law 303 = .ok (.invokevirtual 54, 3) := by decide +kernel
theorem dL_law_306 : decode cL_law 306 = .ok (.goto 25, 3) := by decide +kernel
theorem dL_law_309 : decode cL_law 309 = .ok (.aload_n 1, 1) := by decide +kernel
theorem dL_law_310 : decode cL_law 310 = .ok (.iload 8, 2) := by decide +kernel
theorem dL_law_312 : decode cL_law 312 = .ok (.iconst 1, 1) := by decide +kernel
theorem dL_law_313 : decode cL_law 313 = .ok (.sipush 300, 3) := by decide +kernel
theorem dL_law_316 : decode cL_law 316 = .ok (.iload 5, 2) := by decide +kernel
theorem dL_law_318 : decode cL_law 318 = .ok (.bipush 10, 2) := by decide +kernel
theorem dL_law_320 : decode cL_law 320 = .ok (.ishr, 1) := by decide +kernel
theorem dL_law_321 : decode cL_law 321 = .ok (.sipush 900, 3) := by decide +kernel
theorem dL_law_324 : decode cL_law 324 = .ok (.invokestatic 176, 3) := by decide +kernel
theorem dL_law_327 : decode cL_law 327 = .ok (.iadd, 1) := by decide +kernel
theorem dL_law_328 : decode cL_law 328 = .ok (.invokevirtual 41, 3) := by decide +kernel
theorem dL_law_331 : decode cL_law 331 = .ok (.istore 10, 2) := by decide +kernel
theorem dL_law_333 : decode cL_law 333 = .ok (.iload 10, 2) := by decide +kernel
theorem dL_law_335 : decode cL_law 335 = .ok (.ifCond .ge 27, 3) := by decide +kernel
theorem dL_law_338 : decode cL_law 338 = .ok (.aload_n 1, 1) := by decide +kernel
theorem dL_law_339 : decode cL_law 339 = .ok (.bipush 11, 2) := by decide +kernel
theorem dL_law_341 : decode cL_law 341 = .ok (.invokevirtual 13, 3) := by decide +kernel
theorem dL_law_344 : decode cL_law 344 = .ok (.iload 7, 2) := by decide +kernel
theorem dL_law_346 : decode cL_law 346 = .ok (.if_icmp .ne 14, 3) := by decide +kernel
theorem dL_law_349 : decode cL_law 349 = .ok (.aload_n 1, 1) := by decide +kernel
theorem dL_law_350 : decode cL_law 350 = .ok (.invokestatic 72, 3) := by decide +kernel
theorem dL_law_353 : decode cL_law 353 = .ok (.aload_n 2, 1) := by decide +kernel
theorem dL_law_354 : decode cL_law 354 = .ok (.iload_n 3, 1) := by decide +kernel
theorem dL_law_355 : decode cL_law 355 = .ok (.laload, 1) := by decide +kernel
theorem dL_law_356 : decode cL_law 356 = .ok (.lcmp, 1) := by decide +kernel
theorem dL_law_357 : decode cL_law 357 = .ok (.ifCond .eq 5, 3) := by decide +kernel
theorem dL_law_360 : decode cL_law 360 = .ok (.iconst 0, 1) := by decide +kernel
theorem dL_law_361 : decode cL_law 361 = .ok (.ireturn, 1) := by decide +kernel
theorem dL_law_362 : decode cL_law 362 = .ok (.iload_n 3, 1) := by decide +kernel
theorem dL_law_363 : decode cL_law 363 = .ok (.iload 10, 2) := by decide +kernel
theorem dL_law_365 : decode cL_law 365 = .ok (.ifCond .ge 7, 3) := by decide +kernel
theorem dL_law_368 : decode cL_law 368 = .ok (.iconst 0, 1) := by decide +kernel
theorem dL_law_369 : decode cL_law 369 = .ok (.goto 4, 3) := by decide +kernel
theorem dL_law_372 : decode cL_law 372 = .ok (.iconst 1, 1) := by decide +kernel
theorem dL_law_373 : decode cL_law 373 = .ok (.iadd, 1) := by decide +kernel
theorem dL_law_374 : decode cL_law 374 = .ok (.istore_n 3, 1) := by decide +kernel
theorem dL_law_375 : decode cL_law 375 = .ok (.iinc 4 1, 3) := by decide +kernel
theorem dL_law_378 : decode cL_law 378 = .ok (.goto (-346), 3) := by decide +kernel
theorem dL_law_381 : decode cL_law 381 = .ok (.aload_n 2, 1) := by decide +kernel
theorem dL_law_382 : decode cL_law 382 = .ok (.iload_n 3, 1) := by decide +kernel
theorem dL_law_383 : decode cL_law 383 = .ok (.aload_n 1, 1) := by decide +kernel
theorem dL_law_384 : decode cL_law 384 = .ok (.invokestatic 72, 3) := by decide +kernel
theorem dL_law_387 : decode cL_law 387 = .ok (.lastore, 1) := by decide +kernel
theorem dL_law_388 : decode cL_law 388 = .ok (.aload_n 1, 1) := by decide +kernel
theorem dL_law_389 : decode cL_law 389 = .ok (.iconst 2, 1) := by decide +kernel
theorem dL_law_390 : decode cL_law 390 = .ok (.invokevirtual 13, 3) := by decide +kernel
theorem dL_law_393 : decode cL_law 393 = .ok (.istore 4, 2) := by decide +kernel
theorem dL_law_395 : decode cL_law 395 = .ok (.aload_n 1, 1) := by decide +kernel
theorem dL_law_396 : decode cL_law 396 = .ok (.invokevirtual 179, 3) := by decide +kernel
theorem dL_law_399 : decode cL_law 399 = .ok (.iload 4, 2) := by decide +kernel
theorem dL_law_401 : decode cL_law 401 = .ok (.if_icmp .ne 66, 3) := by decide +kernel
theorem dL_law_404 : decode cL_law 404 = .ok (.aload_n 1, 1) := by decide +kernel
theorem dL_law_405 : decode cL_law 405 = .ok (.iconst 0, 1) := by decide +kernel
theorem dL_law_406 : decode cL_law 406 = .ok (.iconst 1, 1) := by decide +kernel
theorem dL_law_407 : decode cL_law 407 = .ok (.aload_n 1, 1) := by decide +kernel
theorem dL_law_408 : decode cL_law 408 = .ok (.iconst 0, 1) := by decide +kernel
theorem dL_law_409 : decode cL_law 409 = .ok (.iconst 1, 1) := by decide +kernel
theorem dL_law_410 : decode cL_law 410 = .ok (.invokevirtual 23, 3) := by decide +kernel
theorem dL_law_413 : decode cL_law 413 = .ok (.sipush 9999, 3) := by decide +kernel
theorem dL_law_416 : decode cL_law 416 = .ok (.irem, 1) := by decide +kernel
theorem dL_law_417 : decode cL_law 417 = .ok (.iconst 1, 1) := by decide +kernel
theorem dL_law_418 : decode cL_law 418 = .ok (.iadd, 1) := by decide +kernel
theorem dL_law_419 : decode cL_law 419 = .ok (.invokevirtual 41, 3) := by decide +kernel
theorem dL_law_422 : decode cL_law 422 = .ok (.ifCond .lt 45, 3) := by decide +kernel
theorem dL_law_425 : decode cL_law 425 = .ok (.aload_n 1, 1) := by decide +kernel
theorem dL_law_426 : decode cL_law 426 = .ok (.iconst 0, 1) := by decide +kernel
theorem dL_law_427 : decode cL_law 427 = .ok (.iconst 0, 1) := by decide +kernel
theorem dL_law_428 : decode cL_law 428 = .ok (.aload_n 1, 1) := by decide +kernel
theorem dL_law_429 : decode cL_law 429 = .ok (.iconst 0, 1) := by decide +kernel
theorem dL_law_430 : decode cL_law 430 = .ok (.iconst 0, 1) := by decide +kernel
theorem dL_law_431 : decode cL_law 431 = .ok (.invokevirtual 23, 3) := by decide +kernel
theorem dL_law_434 : decode cL_law 434 = .ok (.bipush 9, 2) := by decide +kernel
