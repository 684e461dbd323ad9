theorem dL_refusesAny_480 : decode cL_refusesAny 480 = .ok (.invokevirtual 69, 3) := by decide +kernel
theorem dL_refusesAny_483 : decode cL_refusesAny 483 = .ok (.iconst (-1), 1) := by decide +kernel
theorem dL_refusesAny_484 : decode cL_refusesAny 484 = .ok (.if_icmp .ne 48, 3) := by decide +kernel
theorem dL_refusesAny_487 : decode cL_refusesAny 487 = .ok (.aload_n 0, 1) := by decide +kernel
theorem dL_refusesAny_488 : decode cL_refusesAny 488 = .ok (.iconst 0, 1) := by decide +kernel
theorem dL_refusesAny_489 : decode cL_refusesAny 489 = .ok (.bipush (-4), 2) := by decide +kernel
theorem dL_refusesAny_491 : decode cL_refusesAny 491 = .ok (.invokevirtual 69, 3) := by decide +kernel
theorem dL_refusesAny_494 : decode cL_refusesAny 494 = .ok (.iconst (-1), 1) := by decide +kernel
theorem dL_refusesAny_495 : decode cL_refusesAny 495 = .ok (.if_icmp .ne 37, 3) := by decide +kernel
theorem dL_refusesAny_498 : decode cL_refusesAny 498 = .ok (.aload_n 0, 1) := by decide +kernel
theorem dL_refusesAny_499 : decode cL_refusesAny 499 = .ok (.iconst 0, 1) := by decide +kernel
theorem dL_refusesAny_500 : decode cL_refusesAny 500 = .ok (.iconst 0, 1) := by decide +kernel
theorem dL_refusesAny_501 : decode cL_refusesAny 501 = .ok (.invokevirtual 69, 3) := by decide +kernel
theorem dL_refusesAny_504 : decode cL_refusesAny 504 = .ok (.bipush (-5), 2) := by decide +kernel
theorem dL_refusesAny_506 : decode cL_refusesAny 506 = .ok (.if_icmp .ne 26, 3) := by decide +kernel
theorem dL_refusesAny_509 : decode cL_refusesAny 509 = .ok (.aload_n 0, 1) := by decide +kernel
theorem dL_refusesAny_510 : decode cL_refusesAny 510 = .ok (.iload_n 1, 1) := by decide +kernel
theorem dL_refusesAny_511 : decode cL_refusesAny 511 = .ok (.ifCond .ne 7, 3) := by decide +kernel
theorem dL_refusesAny_514 : decode cL_refusesAny 514 = .ok (.iconst (-1), 1) := by decide +kernel
theorem dL_refusesAny_515 : decode cL_refusesAny 515 = .ok (.goto 5, 3) := by decide +kernel
theorem dL_refusesAny_518 : decode cL_refusesAny 518 = .ok (.bipush 13, 2) := by decide +kernel
theorem dL_refusesAny_520 : decode cL_refusesAny 520 = .ok (.invokevirtual 13, 3) := by decide +kernel
theorem dL_refusesAny_523 : decode cL_refusesAny 523 = .ok (.bipush (-2), 2) := by decide +kernel
theorem dL_refusesAny_525 : decode cL_refusesAny 525 = .ok (.if_icmp .ne 7, 3) := by decide +kernel
theorem dL_refusesAny_528 : decode cL_refusesAny 528 = .ok (.iconst 1, 1) := by decide +kernel
theorem dL_refusesAny_529 : decode cL_refusesAny 529 = .ok (.goto 4, 3) := by decide +kernel
theorem dL_refusesAny_532 : decode cL_refusesAny 532 = .ok (.iconst 0, 1) := by decide +kernel
theorem dL_refusesAny_533 : decode cL_refusesAny 533 = .ok (.ireturn, 1) := by decide +kernel
theorem dL_refused_0 : decode cL_refused 0 = .ok (.aload_n 0, 1) := by decide +kernel
theorem dL_refused_1 : decode cL_refused 1 = .ok (.invokestatic 72, 3) := by decide +kernel
theorem dL_refused_4 : decode cL_refused 4 = .ok (.lstore_n 1, 1) := by decide +kernel
theorem dL_refused_5 : decode cL_refused 5 = .ok (.aload_n 0, 1) := by decide +kernel
theorem dL_refused_6 : decode cL_refused 6 = .ok (.bipush 11, 2) := by decide +kernel
theorem dL_refused_8 : decode cL_refused 8 = .ok (.invokevirtual 13, 3) := by decide +kernel
theorem dL_refused_11 : decode cL_refused 11 = .ok (.istore_n 3, 1) := by decide +kernel
theorem dL_refused_12 : decode cL_refused 12 = .ok (.aload_n 0, 1) := by decide +kernel
theorem dL_refused_13 : decode cL_refused 13 = .ok (.iconst 0, 1) := by decide +kernel
theorem dL_refused_14 : decode cL_refused 14 = .ok (.invokestatic 76, 3) := by decide +kernel
theorem dL_refused_17 : decode cL_refused 17 = .ok (.ifCond .eq 34, 3) := by decide +kernel
theorem dL_refused_20 : decode cL_refused 20 = .ok (.aload_n 0, 1) := by decide +kernel
theorem dL_refused_21 : decode cL_refused 21 = .ok (.iconst 1, 1) := by decide +kernel
theorem dL_refused_22 : decode cL_refused 22 = .ok (.invokestatic 76, 3) := by decide +kernel
theorem dL_refused_25 : decode cL_refused 25 = .ok (.ifCond .eq 26, 3) := by decide +kernel
theorem dL_refused_28 : decode cL_refused 28 = .ok (.aload_n 0, 1) := by decide +kernel
theorem dL_refused_29 : decode cL_refused 29 = .ok (.invokestatic 72, 3) := by decide +kernel
theorem dL_refused_32 : decode cL_refused 32 = .ok (.lload_n 1, 1) := by decide +kernel
theorem dL_refused_33 : decode cL_refused 33 = .ok (.lcmp, 1) := by decide +kernel
theorem dL_refused_34 : decode cL_refused 34 = .ok (.ifCond .ne 17, 3) := by decide +kernel
theorem dL_refused_37 : decode cL_refused 37 = .ok (.aload_n 0, 1) := by decide +kernel
theorem dL_refused_38 : decode cL_refused 38 = .ok (.bipush 11, 2) := by decide +kernel
theorem dL_refused_40 : decode cL_refused 40 = .ok (.invokevirtual 13, 3) := by decide +kernel
theorem dL_refused_43 : decode cL_refused 43 = .ok (.iload_n 3, 1) := by decide +kernel
theorem dL_refused_44 : decode cL_refused 44 = .ok (.if_icmp .ne 7, 3) := by decide +kernel
theorem dL_refused_47 : decode cL_refused 47 = .ok (.iconst 1, 1) := by decide +kernel
theorem dL_refused_48 : decode cL_refused 48 = .ok (.goto 4, 3) := by decide +kernel
theorem dL_refused_51 : decode cL_refused 51 = .ok (.iconst 0, 1) := by decide +kernel
theorem dL_refused_52 : decode cL_refused 52 = .ok (.ireturn, 1) := by decide +kernel
theorem dL_types_0 : decode cL_types 0 = .ok (.iconst 1, 1) := by decide +kernel
theorem dL_types_1 : decode cL_types 1 = .ok (.istore_n 3, 1) := by decide +kernel
theorem dL_types_2 : decode cL_types 2 = .ok (.bipush 56, 2) := by decide +kernel
theorem dL_types_4 : decode cL_types 4 = .ok (.istore 4, 2) := by decide +kernel
theorem dL_types_6 : decode cL_types 6 = .ok (.iload 4, 2) := by decide +kernel
theorem dL_types_8 : decode cL_types 8 = .ok (.ifCond .lt 45, 3) := by decide +kernel
theorem dL_types_11 : decode cL_types 11 = .ok (.lload_n 1, 1) := by decide +kernel
theorem dL_types_12 : decode cL_types 12 = .ok (.iload 4, 2) := by decide +kernel
theorem dL_types_14 : decode cL_types 14 = .ok (.lshr, 1) := by decide +kernel
theorem dL_types_15 : decode cL_types 15 = .ok (.ldc2_w 80, 3) := by decide +kernel
theorem dL_types_18 : decode cL_types 18 = .ok (.land, 1) := by decide +kernel
theorem dL_types_19 : decode cL_types 19 = .ok (.l2i, 1) := by decide +kernel
theorem dL_types_20 : decode cL_types 20 = .ok (.istore 5, 2) := by decide +kernel
theorem dL_types_22 : decode cL_types 22 = .ok (.iload_n 3, 1) := by decide +kernel
theorem dL_types_23 : decode cL_types 23 = .ok (.ifCond .eq 22, 3) := by decide +kernel
theorem dL_types_26 : decode cL_types 26 = .ok (.iload 5, 2) := by decide +kernel
theorem dL_types_28 : decode cL_types 28 = .ok (.ifCond .eq 13, 3) := by decide +kernel
theorem dL_types_31 : decode cL_types 31 = .ok (.aload_n 0, 1) := by decide +kernel
theorem dL_types_32 : decode cL_types 32 = .ok (.iload 5, 2) := by decide +kernel
theorem dL_types_34 : decode cL_types 34 = .ok (.i2c, 1) := by decide +kernel
theorem dL_types_35 : decode cL_types 35 = .ok (.invokevirtual 82, 3) := by decide +kernel
theorem dL_types_38 : decode cL_types 38 = .ok (.ifCond .le 7, 3) := by decide +kernel
theorem dL_types_41 : decode cL_types 41 = .ok (.iconst 1, 1) := by decide +kernel
theorem dL_types_42 : decode cL_types 42 = .ok (.goto 4, 3) := by decide +kernel
theorem dL_types_45 : decode cL_types 45 = .ok (.iconst 0, 1) := by decide +kernel
theorem dL_types_46 : decode cL_types 46 = .ok (.istore_n 3, 1) := by decide +kernel
theorem dL_types_47 : decode cL_types 47 = .ok (.iinc 4 (-8), 3) := by decide +kernel
theorem dL_types_50 : decode cL_types 50 = .ok (.goto (-44), 3) := by decide +kernel
theorem dL_types_53 : decode cL_types 53 = .ok (.iload_n 3, 1) := by decide +kernel
theorem dL_types_54 : decode cL_types 54 = .ok (.ireturn, 1) := by decide +kernel
theorem dL_homes_0 : decode cL_homes 0 = .ok (.new 14, 3) := by decide +kernel
theorem dL_homes_3 : decode cL_homes 3 = .ok (.dup, 1) := by decide +kernel
theorem dL_homes_4 : decode cL_homes 4 = .ok (.invokespecial 86, 3) := by decide +kernel
theorem dL_homes_7 : decode cL_homes 7 = .ok (.astore_n 0, 1) := by decide +kernel
theorem dL_homes_8 : decode cL_homes 8 = .ok (.aload_n 0, 1) := by decide +kernel
theorem dL_homes_9 : decode cL_homes 9 = .ok (.invokevirtual 87, 3) := by decide +kernel
theorem dL_homes_12 : decode cL_homes 12 = .ok (.bipush (-5), 2) := by decide +kernel
theorem dL_homes_14 : decode cL_homes 14 = .ok (.if_icmp .ne 147, 3) := by decide +kernel
theorem dL_homes_17 : decode cL_homes 17 = .ok (.aload_n 0, 1) := by decide +kernel
theorem dL_homes_18 : decode cL_homes 18 = .ok (.invokevirtual 90, 3) := by decide +kernel
theorem dL_homes_21 : decode cL_homes 21 = .ok (.bipush (-5), 2) := by decide +kernel
theorem dL_homes_23 : decode cL_homes 23 = .ok (.if_icmp .ne 138, 3) := by decide +kernel
theorem dL_homes_26 : decode cL_homes 26 = .ok (.aload_n 0, 1) := by decide +kernel
theorem dL_homes_27 : decode cL_homes 27 = .ok (.invokevirtual 93, 3) := by decide +kernel
theorem dL_homes_30 : decode cL_homes 30 = .ok (.bipush (-4), 2) := by decide +kernel
theorem dL_homes_32 : decode cL_homes 32 = .ok (.if_icmp .ne 129, 3) := by decide +kernel
theorem dL_homes_35 : decode cL_homes 35 = .ok (.aload_n 0, 1) := by decide +kernel
theorem dL_homes_36 : decode cL_homes 36 = .ok (.invokevirtual 96, 3) := by decide +kernel
theorem dL_homes_39 : decode cL_homes 39 = .ok (.bipush (-5), 2) := by decide +kernel
theorem dL_homes_41 : decode cL_homes 41 = .ok (.if_icmp .ne 120, 3) := by decide +kernel
theorem dL_homes_44 : decode cL_homes 44 = .ok (.aload_n 0, 1) := by decide +kernel
theorem dL_homes_45 : decode cL_homes 45 = .ok (.invokevirtual 29, 3) := by decide +kernel
theorem dL_homes_48 : decode cL_homes 48 = .ok (.ifCond .ne 113, 3) := by decide +kernel
theorem dL_homes_51 : decode cL_homes 51 = .ok (.aload_n 0, 1) := by decide +kernel
theorem dL_homes_52 : decode cL_homes 52 = .ok (.iconst 2, 1) := by decide +kernel
theorem dL_homes_53 : decode cL_homes 53 = .ok (.bipush 100, 2) := by decide +kernel
theorem dL_homes_55 : decode cL_homes 55 = .ok (.invokevirtual 33, 3) := by decide +kernel
theorem dL_homes_58 : decode cL_homes 58 = .ok (.ifCond .ne 103, 3) := by decide +kernel
theorem dL_homes_61 : decode cL_homes 61 = .ok (.aload_n 0, 1) := by decide +kernel
theorem dL_homes_62 : decode cL_homes 62 = .ok (.iconst 3, 1) := by decide +kernel
theorem dL_homes_63 : decode cL_homes 63 = .ok (.sipush 200, 3) := by decide +kernel
theorem dL_homes_66 : decode cL_homes 66 = .ok (.invokevirtual 33, 3) := by decide +kernel
theorem dL_homes_69 : decode cL_homes 69 = .ok (.iconst 1, 1) := by decide +kernel
theorem dL_homes_70 : decode cL_homes 70 = .ok (.if_icmp .ne 91, 3) := by decide +kernel
theorem dL_homes_73 : decode cL_homes 73 = .ok (.aload_n 0, 1) := by decide +kernel
theorem dL_homes_74 : decode cL_homes 74 = .ok (.iconst 1, 1) := by decide +kernel
theorem dL_homes_75 : decode cL_homes 75 = .ok (.bipush 50, 2) := by decide +kernel
theorem dL_homes_77 : decode cL_homes 77 = .ok (.invokevirtual 33, 3) := by decide +kernel
theorem dL_homes_80 : decode cL_homes 80 = .ok (.iconst 2, 1) := by decide +kernel
theorem dL_homes_81 : decode cL_homes 81 = .ok (.if_icmp .ne 80, 3) := by decide +kernel
theorem dL_homes_84 : decode cL_homes 84 = .ok (.aload_n 0, 1) := by decide +kernel
theorem dL_homes_85 : decode cL_homes 85 = .ok (.iconst 2, 1) := by decide +kernel
theorem dL_homes_86 : decode cL_homes 86 = .ok (.sipush 900, 3) := by decide +kernel
theorem dL_homes_89 : decode cL_homes 89 = .ok (.invokevirtual 38, 3) := by decide +kernel
theorem dL_homes_92 : decode cL_homes 92 = .ok (.ifCond .ne 69, 3) := by decide +kernel
theorem dL_homes_95 : decode cL_homes 95 = .ok (.aload_n 0, 1) := by decide +kernel
theorem dL_homes_96 : decode cL_homes 96 = .ok (.iconst 3, 1) := by decide +kernel
theorem dL_homes_97 : decode cL_homes 97 = .ok (.sipush 900, 3) := by decide +kernel
theorem dL_homes_100 : decode cL_homes 100 = .ok (.invokevirtual 38, 3) := by decide +kernel
theorem dL_homes_103 : decode cL_homes 103 = .ok (.iconst 1, 1) := by decide +kernel
theorem dL_homes_104 : decode cL_homes 104 = .ok (.if_icmp .ne 57, 3) := by decide +kernel
theorem dL_homes_107 : decode cL_homes 107 = .ok (.aload_n 0, 1) := by decide +kernel
theorem dL_homes_108 : decode cL_homes 108 = .ok (.iconst 2, 1) := by decide +kernel
theorem dL_homes_109 : decode cL_homes 109 = .ok (.sipush 500, 3) := by decide +kernel
theorem dL_homes_112 : decode cL_homes 112 = .ok (.invokevirtual 38, 3) := by decide +kernel
theorem dL_homes_115 : decode cL_homes 115 = .ok (.iconst 2, 1) := by decide +kernel
theorem dL_homes_116 : decode cL_homes 116 = .ok (.if_icmp .ne 45, 3) := by decide +kernel
theorem dL_homes_119 : decode cL_homes 119 = .ok (.aload_n 0, 1) := by decide +kernel
theorem dL_homes_120 : decode cL_homes 120 = .ok (.iconst 0, 1) := by decide +kernel
theorem dL_homes_121 : decode cL_homes 121 = .ok (.iconst 4, 1) := by decide +kernel
theorem dL_homes_122 : decode cL_homes 122 = .ok (.invokevirtual 19, 3) := by decide +kernel
theorem dL_homes_125 : decode cL_homes 125 = .ok (.bipush 7, 2) := by decide +kernel
theorem dL_homes_127 : decode cL_homes 127 = .ok (.if_icmp .ne 34, 3) := by decide +kernel
theorem dL_homes_130 : decode cL_homes 130 = .ok (.aload_n 0, 1) := by decide +kernel
theorem dL_homes_131 : decode cL_homes 131 = .ok (.iconst 1, 1) := by decide +kernel
theorem dL_homes_132 : decode cL_homes 132 = .ok (.iconst 4, 1) := by decide +kernel
theorem dL_homes_133 : decode cL_homes 133 = .ok (.invokevirtual 19, 3) := by decide +kernel
theorem dL_homes_136 : decode cL_homes 136 = .ok (.iconst 3, 1) := by decide +kernel
theorem dL_homes_137 : decode cL_homes 137 = .ok (.if_icmp .ne 24, 3) := by decide +kernel
theorem dL_homes_140 : decode cL_homes 140 = .ok (.aload_n 0, 1) := by decide +kernel
theorem dL_homes_141 : decode cL_homes 141 = .ok (.iconst 2, 1) := by decide +kernel
theorem dL_homes_142 : decode cL_homes 142 = .ok (.iconst 4, 1) := by decide +kernel
theorem dL_homes_143 : decode cL_homes 143 = .ok (.invokevirtual 19, 3) := by decide +kernel
theorem dL_homes_146 : decode cL_homes 146 = .ok (.iconst 5, 1) := by decide +kernel
theorem dL_homes_147 : decode cL_homes 147 = .ok (.if_icmp .ne 14, 3) := by decide +kernel
theorem dL_homes_150 : decode cL_homes 150 = .ok (.aload_n 0, 1) := by decide +kernel
theorem dL_homes_151 : decode cL_homes 151 = .ok (.iconst 0, 1) := by decide +kernel
theorem dL_homes_152 : decode cL_homes 152 = .ok (.iconst 2, 1) := by decide +kernel
theorem dL_homes_153 : decode cL_homes 153 = .ok (.invokevirtual 19, 3) := by decide +kernel
theorem dL_homes_156 : decode cL_homes 156 = .ok (.bipush (-5), 2) := by decide +kernel
theorem dL_homes_158 : decode cL_homes 158 = .ok (.if_icmp .eq 5, 3) := by decide +kernel
theorem dL_homes_161 : decode cL_homes 161 = .ok (.iconst 0, 1) := by decide +kernel
theorem dL_homes_162 : decode cL_homes 162 = .ok (.ireturn, 1) := by decide +kernel
theorem dL_homes_163 : decode cL_homes 163 = .ok (.aload_n 0, 1) := by decide +kernel
theorem dL_homes_164 : decode cL_homes 164 = .ok (.ldc2_w 99, 3) := by decide +kernel
theorem dL_homes_167 : decode cL_homes 167 = .ok (.invokestatic 101, 3) := by decide +kernel
theorem dL_homes_170 : decode cL_homes 170 = .ok (.ifCond .eq 189, 3) := by decide +kernel
theorem dL_homes_173 : decode cL_homes 173 = .ok (.aload_n 0, 1) := by decide +kernel
theorem dL_homes_174 : decode cL_homes 174 = .ok (.ldc2_w 105, 3) := by decide +kernel
theorem dL_homes_177 : decode cL_homes 177 = .ok (.invokestatic 101, 3) := by decide +kernel
theorem dL_homes_180 : decode cL_homes 180 = .ok (.ifCond .eq 179, 3) := by decide +kernel
theorem dL_homes_183 : decode cL_homes 183 = .ok (.aload_n 0, 1) := by decide +kernel
theorem dL_homes_184 : decode cL_homes 184 = .ok (.ldc2_w 107, 3) := by decide +kernel
theorem dL_homes_187 : decode cL_homes 187 = .ok (.invokestatic 101, 3) := by decide +kernel
theorem dL_homes_190 : decode cL_homes 190 = .ok (.ifCond .eq 169, 3) := by decide +kernel
theorem dL_homes_193 : decode cL_homes 193 = .ok (.aload_n 0, 1) := by decide +kernel
theorem dL_homes_194 : decode cL_homes 194 = .ok (.invokevirtual 109, 3) := by decide +kernel
theorem dL_homes_197 : decode cL_homes 197 = .ok (.iconst 3, 1) := by decide +kernel
theorem dL_homes_198 : decode cL_homes 198 = .ok (.if_icmp .ne 161, 3) := by decide +kernel
theorem dL_homes_201 : decode cL_homes 201 = .ok (.aload_n 0, 1) := by decide +kernel
theorem dL_homes_202 : decode cL_homes 202 = .ok (.bipush 12, 2) := by decide +kernel
theorem dL_homes_204 : decode cL_homes 204 = .ok (.invokevirtual 13, 3) := by decide +kernel
theorem dL_homes_207 : decode cL_homes 207 = .ok (.bipush 17, 2) := by decide +kernel
theorem dL_homes_209 : decode cL_homes 209 = .ok (.if_icmp .ne 150, 3) := by decide +kernel
theorem dL_homes_212 : decode cL_homes 212 = .ok (.aload_n 0, 1) := by decide +kernel
theorem dL_homes_213 : decode cL_homes 213 = .ok (.bipush 11, 2) := by decide +kernel
theorem dL_homes_215 : decode cL_homes 215 = .ok (.invokevirtual 13, 3) := by decide +kernel
theorem dL_homes_218 : decode cL_homes 218 = .ok (.iconst 4, 1) := by decide +kernel
theorem dL_homes_219 : decode cL_homes 219 = .ok (.if_icmp .ne 140, 3) := by decide +kernel
theorem dL_homes_222 : decode cL_homes 222 = .ok (.aload_n 0, 1) := by decide +kernel
theorem dL_homes_223 : decode cL_homes 223 = .ok (.iconst 0, 1) := by decide +kernel
theorem dL_homes_224 : decode cL_homes 224 = .ok (.iconst 3, 1) := by decide +kernel
theorem dL_homes_225 : decode cL_homes 225 = .ok (.invokevirtual 19, 3) := by decide +kernel
theorem dL_homes_228 : decode cL_homes 228 = .ok (.bipush 7, 2) := by decide +kernel
theorem dL_homes_230 : decode cL_homes 230 = .ok (.if_icmp .ne 129, 3) := by decide +kernel
theorem dL_homes_233 : decode cL_homes 233 = .ok (.aload_n 0, 1) := by decide +kernel
theorem dL_homes_234 : decode cL_homes 234 = .ok (.iconst 1, 1) := by decide +kernel
theorem dL_homes_235 : decode cL_homes 235 = .ok (.iconst 3, 1) := by decide +kernel
theorem dL_homes_236 : decode cL_homes 236 = .ok (.invokevirtual 19, 3) := by decide +kernel
theorem dL_homes_239 : decode cL_homes 239 = .ok (.iconst 3, 1) := by decide +kernel
theorem dL_homes_240 : decode cL_homes 240 = .ok (.if_icmp .ne 119, 3) := by decide +kernel
theorem dL_homes_243 : decode cL_homes 243 = .ok (.aload_n 0, 1) := by decide +kernel
theorem dL_homes_244 : decode cL_homes 244 = .ok (.iconst 0, 1) := by decide +kernel
theorem dL_homes_245 : decode cL_homes 245 = .ok (.bipush 7, 2) := by decide +kernel
theorem dL_homes_247 : decode cL_homes 247 = .ok (.invokevirtual 23, 3) := by decide +kernel
theorem dL_homes_250 : decode cL_homes 250 = .ok (.bipush (-5), 2) := by decide +kernel
theorem dL_homes_252 : decode cL_homes 252 = .ok (.if_icmp .ne 107, 3) := by decide +kernel
theorem dL_homes_255 : decode cL_homes 255 = .ok (.aload_n 0, 1) := by decide +kernel
theorem dL_homes_256 : decode cL_homes 256 = .ok (.iconst 0, 1) := by decide +kernel
theorem dL_homes_257 : decode cL_homes 257 = .ok (.iconst 2, 1) := by decide +kernel
theorem dL_homes_258 : decode cL_homes 258 = .ok (.invokevirtual 23, 3) := by decide +kernel
theorem dL_homes_261 : decode cL_homes 261 = .ok (.bipush (-5), 2) := by decide +kernel
theorem dL_homes_263 : decode cL_homes 263 = .ok (.if_icmp .ne 96, 3) := by decide +kernel
theorem dL_homes_266 : decode cL_homes 266 = .ok (.aload_n 0, 1) := by decide +kernel
theorem dL_homes_267 : decode cL_homes 267 = .ok (.iconst 0, 1) := by decide +kernel
theorem dL_homes_268 : decode cL_homes 268 = .ok (.bipush 50, 2) := by decide +kernel
theorem dL_homes_270 : decode cL_homes 270 = .ok (.invokevirtual 51, 3) := by decide +kernel
theorem dL_homes_273 : decode cL_homes 273 = .ok (.iconst 1, 1) := by decide +kernel
theorem dL_homes_274 : decode cL_homes 274 = .ok (.if_icmp .ne 85, 3) := by decide +kernel
theorem dL_homes_277 : decode cL_homes 277 = .ok (.aload_n 0, 1) := by decide +kernel
theorem dL_homes_278 : decode cL_homes 278 = .ok (.iconst 1, 1) := by decide +kernel
theorem dL_homes_279 : decode cL_homes 279 = .ok (.bipush 20, 2) := by decide +kernel
theorem dL_homes_281 : decode cL_homes 281 = .ok (.invokevirtual 51, 3) := by decide +kernel
theorem dL_homes_284 : decode cL_homes 284 = .ok (.iconst 2, 1) := by decide +kernel
theorem dL_homes_285 : decode cL_homes 285 = .ok (.if_icmp .ne 74, 3) := by decide +kernel
theorem dL_homes_288 : decode cL_homes 288 = .ok (.aload_n 0, 1) := by decide +kernel
theorem dL_homes_289 : decode cL_homes 289 = .ok (.iconst 2, 1) := by decide +kernel
theorem dL_homes_290 : decode cL_homes 290 = .ok (.bipush 50, 2) := by decide +kernel
theorem dL_homes_292 : decode cL_homes 292 = .ok (.invokevirtual 51, 3) := by decide +kernel
theorem dL_homes_295 : decode cL_homes 295 = .ok (.bipush (-4), 2) := by decide +kernel
theorem dL_homes_297 : decode cL_homes 297 = .ok (.if_icmp .ne 62, 3) := by decide +kernel
theorem dL_homes_300 : decode cL_homes 300 = .ok (.aload_n 0, 1) := by decide +kernel
theorem dL_homes_301 : decode cL_homes 301 = .ok (.iconst 2, 1) := by decide +kernel
theorem dL_homes_302 : decode cL_homes 302 = .ok (.bipush 10, 2) := by decide +kernel
theorem dL_homes_304 : decode cL_homes 304 = .ok (.invokevirtual 51, 3) := by decide +kernel
theorem dL_homes_307 : decode cL_homes 307 = .ok (.iconst 3, 1) := by decide +kernel
theorem dL_homes_308 : decode cL_homes 308 = .ok (.if_icmp .ne 51, 3) := by decide +kernel
theorem dL_homes_311 : decode cL_homes 311 = .ok (.aload_n 0, 1) := by decide +kernel
theorem dL_homes_312 : decode cL_homes 312 = .ok (.iconst 2, 1) := by decide +kernel
theorem dL_homes_313 : decode cL_homes 313 = .ok (.bipush 10, 2) := by decide +kernel
theorem dL_homes_315 : decode cL_homes 315 = .ok (.invokevirtual 51, 3) := by decide +kernel
theorem dL_homes_318 : decode cL_homes 318 = .ok (.bipush (-5), 2) := by decide +kernel
theorem dL_homes_320 : decode cL_homes 320 = .ok (.if_icmp .ne 39, 3) := by decide +kernel
theorem dL_homes_323 : decode cL_homes 323 = .ok (.aload_n 0, 1) := by decide +kernel
theorem dL_homes_324 : decode cL_homes 324 = .ok (.iconst 0, 1) := by decide +kernel
theorem dL_homes_325 : decode cL_homes 325 = .ok (.invokevirtual 63, 3) := by decide +kernel
theorem dL_homes_328 : decode cL_homes 328 = .ok (.iconst 2, 1) := by decide +kernel
theorem dL_homes_329 : decode cL_homes 329 = .ok (.if_icmp .ne 30, 3) := by decide +kernel
theorem dL_homes_332 : decode cL_homes 332 = .ok (.aload_n 0, 1) := by decide +kernel
theorem dL_homes_333 : decode cL_homes 333 = .ok (.iconst 1, 1) := by decide +kernel
theorem dL_homes_334 : decode cL_homes 334 = .ok (.invokevirtual 63, 3) := by decide +kernel
theorem dL_homes_337 : decode cL_homes 337 = .ok (.iconst 1, 1) := by decide +kernel
theorem dL_homes_338 : decode cL_homes 338 = .ok (.if_icmp .ne 21, 3) := by decide +kernel
theorem dL_homes_341 : decode cL_homes 341 = .ok (.aload_n 0, 1) := by decide +kernel
theorem dL_homes_342 : decode cL_homes 342 = .ok (.iconst 2, 1) := by decide +kernel
theorem dL_homes_343 : decode cL_homes 343 = .ok (.invokevirtual 63, 3) := by decide +kernel
theorem dL_homes_346 : decode cL_homes 346 = .ok (.ifCond .ne 13, 3) := by decide +kernel
theorem dL_homes_349 : decode cL_homes 349 = .ok (.aload_n 0, 1) := by decide +kernel
theorem dL_homes_350 : decode cL_homes 350 = .ok (.iconst 3, 1) := by decide +kernel
theorem dL_homes_351 : decode cL_homes 351 = .ok (.invokevirtual 63, 3) := by decide +kernel
theorem dL_homes_354 : decode cL_homes 354 = .ok (.bipush (-5), 2) := by decide +kernel
theorem dL_homes_356 : decode cL_homes 356 = .ok (.if_icmp .eq 5, 3) := by decide +kernel
theorem dL_homes_359 : decode cL_homes 359 = .ok (.iconst 0, 1) := by decide +kernel
theorem dL_homes_360 : decode cL_homes 360 = .ok (.ireturn, 1) := by decide +kernel
theorem dL_homes_361 : decode cL_homes 361 = .ok (.aload_n 0, 1) := by decide +kernel
theorem dL_homes_362 : decode cL_homes 362 = .ok (.iconst 2, 1) := by decide +kernel
theorem dL_homes_363 : decode cL_homes 363 = .ok (.bipush (-5), 2) := by decide +kernel
theorem dL_homes_365 : decode cL_homes 365 = .ok (.invokevirtual 69, 3) := by decide +kernel
theorem dL_homes_368 : decode cL_homes 368 = .ok (.ifCond .ne 191, 3) := by decide +kernel
theorem dL_homes_371 : decode cL_homes 371 = .ok (.aload_n 0, 1) := by decide +kernel
theorem dL_homes_372 : decode cL_homes 372 = .ok (.iconst 1, 1) := by decide +kernel
theorem dL_homes_373 : decode cL_homes 373 = .ok (.bipush (-5), 2) := by decide +kernel
theorem dL_homes_375 : decode cL_homes 375 = .ok (.invokevirtual 69, 3) := by decide +kernel
theorem dL_homes_378 : decode cL_homes 378 = .ok (.iconst 1, 1) := by decide +kernel
theorem dL_homes_379 : decode cL_homes 379 = .ok (.if_icmp .ne 180, 3) := by decide +kernel
theorem dL_homes_382 : decode cL_homes 382 = .ok (.aload_n 0, 1) := by decide +kernel
theorem dL_homes_383 : decode cL_homes 383 = .ok (.iconst 0, 1) := by decide +kernel
theorem dL_homes_384 : decode cL_homes 384 = .ok (.bipush (-5), 2) := by decide +kernel
theorem dL_homes_386 : decode cL_homes 386 = .ok (.invokevirtual 69, 3) := by decide +kernel
theorem dL_homes_389 : decode cL_homes 389 = .ok (.bipush (-5), 2) := by decide +kernel
theorem dL_homes_391 : decode cL_homes 391 = .ok (.if_icmp .ne 168, 3) := by decide +kernel
theorem dL_homes_394 : decode cL_homes 394 = .ok (.aload_n 0, 1) := by decide +kernel
theorem dL_homes_395 : decode cL_homes 395 = .ok (.iconst 0, 1) := by decide +kernel
theorem dL_homes_396 : decode cL_homes 396 = .ok (.iconst 2, 1) := by decide +kernel
theorem dL_homes_397 : decode cL_homes 397 = .ok (.invokevirtual 69, 3) := by decide +kernel
theorem dL_homes_400 : decode cL_homes 400 = .ok (.ifCond .ne 159, 3) := by decide +kernel
theorem dL_homes_403 : decode cL_homes 403 = .ok (.aload_n 0, 1) := by decide +kernel
theorem dL_homes_404 : decode cL_homes 404 = .ok (.iconst 0, 1) := by decide +kernel
theorem dL_homes_405 : decode cL_homes 405 = .ok (.iconst 1, 1) := by decide +kernel
theorem dL_homes_406 : decode cL_homes 406 = .ok (.invokevirtual 69, 3) := by decide +kernel
theorem dL_homes_409 : decode cL_homes 409 = .ok (.iconst 1, 1) := by decide +kernel
theorem dL_homes_410 : decode cL_homes 410 = .ok (.if_icmp .ne 149, 3) := by decide +kernel
theorem dL_homes_413 : decode cL_homes 413 = .ok (.aload_n 0, 1) := by decide +kernel
theorem dL_homes_414 : decode cL_homes 414 = .ok (.invokevirtual 29, 3) := by decide +kernel
theorem dL_homes_417 : decode cL_homes 417 = .ok (.iconst 3, 1) := by decide +kernel
theorem dL_homes_418 : decode cL_homes 418 = .ok (.if_icmp .ne 141, 3) := by decide +kernel
theorem dL_homes_421 : decode cL_homes 421 = .ok (.aload_n 0, 1) := by decide +kernel
theorem dL_homes_422 : decode cL_homes 422 = .ok (.iconst 1, 1) := by decide +kernel
theorem dL_homes_423 : decode cL_homes 423 = .ok (.iconst 0, 1) := by decide +kernel
theorem dL_homes_424 : decode cL_homes 424 = .ok (.invokevirtual 57, 3) := by decide +kernel
theorem dL_homes_427 : decode cL_homes 427 = .ok (.ifCond .ne 132, 3) := by decide +kernel
theorem dL_homes_430 : decode cL_homes 430 = .ok (.aload_n 0, 1) := by decide +kernel
theorem dL_homes_431 : decode cL_homes 431 = .ok (.invokevirtual 87, 3) := by decide +kernel
theorem dL_homes_434 : decode cL_homes 434 = .ok (.iconst 3, 1) := by decide +kernel
theorem dL_homes_435 : decode cL_homes 435 = .ok (.if_icmp .ne 124, 3) := by decide +kernel
theorem dL_homes_438 : decode cL_homes 438 = .ok (.aload_n 0, 1) := by decide +kernel
theorem dL_homes_439 : decode cL_homes 439 = .ok (.invokevirtual 93, 3) := by decide +kernel
theorem dL_homes_442 : decode cL_homes 442 = .ok (.iconst 2, 1) := by decide +kernel
theorem dL_homes_443 : decode cL_homes 443 = .ok (.if_icmp .ne 116, 3) := by decide +kernel
theorem dL_homes_446 : decode cL_homes 446 = .ok (.aload_n 0, 1) := by decide +kernel
theorem dL_homes_447 : decode cL_homes 447 = .ok (.iconst 2, 1) := by decide +kernel
theorem dL_homes_448 : decode cL_homes 448 = .ok (.invokevirtual 13, 3) := by decide +kernel
theorem dL_homes_451 : decode cL_homes 451 = .ok (.iconst 2, 1) := by decide +kernel
theorem dL_homes_452 : decode cL_homes 452 = .ok (.if_icmp .ne 107, 3) := by decide +kernel
theorem dL_homes_455 : decode cL_homes 455 = .ok (.aload_n 0, 1) := by decide +kernel
theorem dL_homes_456 : decode cL_homes 456 = .ok (.iconst 3, 1) := by decide +kernel
theorem dL_homes_457 : decode cL_homes 457 = .ok (.invokevirtual 13, 3) := by decide +kernel
theorem dL_homes_460 : decode cL_homes 460 = .ok (.iconst 1, 1) := by decide +kernel
theorem dL_homes_461 : decode cL_homes 461 = .ok (.if_icmp .ne 98, 3) := by decide +kernel
theorem dL_homes_464 : decode cL_homes 464 = .ok (.aload_n 0, 1) := by decide +kernel
theorem dL_homes_465 : decode cL_homes 465 = .ok (.iconst 0, 1) := by decide +kernel
theorem dL_homes_466 : decode cL_homes 466 = .ok (.bipush 9, 2) := by decide +kernel
theorem dL_homes_468 : decode cL_homes 468 = .ok (.invokevirtual 23, 3) := by decide +kernel
theorem dL_homes_471 : decode cL_homes 471 = .ok (.iconst 1, 1) := by decide +kernel
theorem dL_homes_472 : decode cL_homes 472 = .ok (.if_icmp .ne 87, 3) := by decide +kernel
theorem dL_homes_475 : decode cL_homes 475 = .ok (.aload_n 0, 1) := by decide +kernel
theorem dL_homes_476 : decode cL_homes 476 = .ok (.iconst 2, 1) := by decide +kernel
theorem dL_homes_477 : decode cL_homes 477 = .ok (.bipush 9, 2) := by decide +kernel
theorem dL_homes_479 : decode cL_homes 479 = .ok (.invokevirtual 23, 3) := by decide +kernel
theorem dL_homes_482 : decode cL_homes 482 = .ok (.ifCond .ne 77, 3) := by decide +kernel
theorem dL_homes_485 : decode cL_homes 485 = .ok (.aload_n 0, 1) := by decide +kernel
theorem dL_homes_486 : decode cL_homes 486 = .ok (.iconst 0, 1) := by decide +kernel
theorem dL_homes_487 : decode cL_homes 487 = .ok (.iconst 2, 1) := by decide +kernel
theorem dL_homes_488 : decode cL_homes 488 = .ok (.invokevirtual 19, 3) := by decide +kernel
theorem dL_homes_491 : decode cL_homes 491 = .ok (.iconst 2, 1) := by decide +kernel
theorem dL_homes_492 : decode cL_homes 492 = .ok (.if_icmp .ne 67, 3) := by decide +kernel
theorem dL_homes_495 : decode cL_homes 495 = .ok (.aload_n 0, 1) := by decide +kernel
theorem dL_homes_496 : decode cL_homes 496 = .ok (.iconst 1, 1) := by decide +kernel
theorem dL_homes_497 : decode cL_homes 497 = .ok (.iconst 2, 1) := by decide +kernel
theorem dL_homes_498 : decode cL_homes 498 = .ok (.invokevirtual 19, 3) := by decide +kernel
theorem dL_homes_501 : decode cL_homes 501 = .ok (.iconst 1, 1) := by decide +kernel
theorem dL_homes_502 : decode cL_homes 502 = .ok (.if_icmp .ne 57, 3) := by decide +kernel
theorem dL_homes_505 : decode cL_homes 505 = .ok (.aload_n 0, 1) := by decide +kernel
theorem dL_homes_506 : decode cL_homes 506 = .ok (.iconst 0, 1) := by decide +kernel
theorem dL_homes_507 : decode cL_homes 507 = .ok (.iconst 2, 1) := by decide +kernel
theorem dL_homes_508 : decode cL_homes 508 = .ok (.invokevirtual 66, 3) := by decide +kernel
theorem dL_homes_511 : decode cL_homes 511 = .ok (.iconst 1, 1) := by decide +kernel
theorem dL_homes_512 : decode cL_homes 512 = .ok (.if_icmp .ne 47, 3) := by decide +kernel
theorem dL_homes_515 : decode cL_homes 515 = .ok (.aload_n 0, 1) := by decide +kernel
theorem dL_homes_516 : decode cL_homes 516 = .ok (.iconst 0, 1) := by decide +kernel
theorem dL_homes_517 : decode cL_homes 517 = .ok (.iconst 1, 1) := by decide +kernel
theorem dL_homes_518 : decode cL_homes 518 = .ok (.invokevirtual 66, 3) := by decide +kernel
theorem dL_homes_521 : decode cL_homes 521 = .ok (.iconst 1, 1) := by decide +kernel
theorem dL_homes_522 : decode cL_homes 522 = .ok (.if_icmp .ne 37, 3) := by decide +kernel
theorem dL_homes_525 : decode cL_homes 525 = .ok (.aload_n 0, 1) := by decide +kernel
theorem dL_homes_526 : decode cL_homes 526 = .ok (.iconst 1, 1) := by decide +kernel
theorem dL_homes_527 : decode cL_homes 527 = .ok (.iconst 2, 1) := by decide +kernel
theorem dL_homes_528 : decode cL_homes 528 = .ok (.invokevirtual 66, 3) := by decide +kernel
theorem dL_homes_531 : decode cL_homes 531 = .ok (.ifCond .ne 28, 3) := by decide +kernel
theorem dL_homes_534 : decode cL_homes 534 = .ok (.aload_n 0, 1) := by decide +kernel
theorem dL_homes_535 : decode cL_homes 535 = .ok (.iconst 5, 1) := by decide +kernel
theorem dL_homes_536 : decode cL_homes 536 = .ok (.invokevirtual 13, 3) := by decide +kernel
theorem dL_homes_539 : decode cL_homes 539 = .ok (.iconst 2, 1) := by decide +kernel
theorem dL_homes_540 : decode cL_homes 540 = .ok (.if_icmp .ne 19, 3) := by decide +kernel
theorem dL_homes_543 : decode cL_homes 543 = .ok (.aload_n 0, 1) := by decide +kernel
theorem dL_homes_544 : decode cL_homes 544 = .ok (.bipush 6, 2) := by decide +kernel
theorem dL_homes_546 : decode cL_homes 546 = .ok (.invokevirtual 13, 3) := by decide +kernel
theorem dL_homes_549 : decode cL_homes 549 = .ok (.ifCond .ne 10, 3) := by decide +kernel
theorem dL_homes_552 : decode cL_homes 552 = .ok (.aload_n 0, 1) := by decide +kernel
theorem dL_homes_553 : decode cL_homes 553 = .ok (.invokestatic 112, 3) := by decide +kernel
theorem dL_homes_556 : decode cL_homes 556 = .ok (.ifCond .ne 5, 3) := by decide +kernel
theorem dL_homes_559 : decode cL_homes 559 = .ok (.iconst 0, 1) := by decide +kernel
theorem dL_homes_560 : decode cL_homes 560 = .ok (.ireturn, 1) := by decide +kernel
theorem dL_homes_561 : decode cL_homes 561 = .ok (.aload_n 0, 1) := by decide +kernel
theorem dL_homes_562 : decode cL_homes 562 = .ok (.iconst 0, 1) := by decide +kernel
theorem dL_homes_563 : decode cL_homes 563 = .ok (.iconst 0, 1) := by decide +kernel
theorem dL_homes_564 : decode cL_homes 564 = .ok (.invokevirtual 57, 3) := by decide +kernel
theorem dL_homes_567 : decode cL_homes 567 = .ok (.bipush 101, 2) := by decide +kernel
theorem dL_homes_569 : decode cL_homes 569 = .ok (.if_icmp .ne 198, 3) := by decide +kernel
theorem dL_homes_572 : decode cL_homes 572 = .ok (.aload_n 0, 1) := by decide +kernel
theorem dL_homes_573 : decode cL_homes 573 = .ok (.iconst 0, 1) := by decide +kernel
theorem dL_homes_574 : decode cL_homes 574 = .ok (.bipush 7, 2) := by decide +kernel
theorem dL_homes_576 : decode cL_homes 576 = .ok (.invokevirtual 23, 3) := by decide +kernel
theorem dL_homes_579 : decode cL_homes 579 = .ok (.ifCond .ne 188, 3) := by decide +kernel
theorem dL_homes_582 : decode cL_homes 582 = .ok (.aload_n 0, 1) := by decide +kernel
theorem dL_homes_583 : decode cL_homes 583 = .ok (.iconst 0, 1) := by decide +kernel
theorem dL_homes_584 : decode cL_homes 584 = .ok (.iconst 2, 1) := by decide +kernel
theorem dL_homes_585 : decode cL_homes 585 = .ok (.invokevirtual 66, 3) := by decide +kernel
theorem dL_homes_588 : decode cL_homes 588 = .ok (.iconst 2, 1) := by decide +kernel
theorem dL_homes_589 : decode cL_homes 589 = .ok (.if_icmp .ne 178, 3) := by decide +kernel
theorem dL_homes_592 : decode cL_homes 592 = .ok (.aload_n 0, 1) := by decide +kernel
theorem dL_homes_593 : decode cL_homes 593 = .ok (.bipush 6, 2) := by decide +kernel
theorem dL_homes_595 : decode cL_homes 595 = .ok (.invokevirtual 13, 3) := by decide +kernel
