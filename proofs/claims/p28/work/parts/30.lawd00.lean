theorem dL_part_0 : decode cL_part 0 = .ok (.iload_n 0, 1) := by decide +kernel
theorem dL_part_1 : decode cL_part 1 = .ok (.ldc 7, 2) := by decide +kernel
theorem dL_part_3 : decode cL_part 3 = .ok (.iand, 1) := by decide +kernel
theorem dL_part_4 : decode cL_part 4 = .ok (.iload_n 1, 1) := by decide +kernel
theorem dL_part_5 : decode cL_part 5 = .ok (.irem, 1) := by decide +kernel
theorem dL_part_6 : decode cL_part 6 = .ok (.ireturn, 1) := by decide +kernel
theorem dL_drawn_0 : decode cL_drawn 0 = .ok (.aload_n 0, 1) := by decide +kernel
theorem dL_drawn_1 : decode cL_drawn 1 = .ok (.arraylength, 1) := by decide +kernel
theorem dL_drawn_2 : decode cL_drawn 2 = .ok (.ifCond .ne 13, 3) := by decide +kernel
theorem dL_drawn_5 : decode cL_drawn 5 = .ok (.sipush 7919, 3) := by decide +kernel
theorem dL_drawn_8 : decode cL_drawn 8 = .ok (.iload_n 1, 1) := by decide +kernel
theorem dL_drawn_9 : decode cL_drawn 9 = .ok (.imul, 1) := by decide +kernel
theorem dL_drawn_10 : decode cL_drawn 10 = .ok (.iconst 3, 1) := by decide +kernel
theorem dL_drawn_11 : decode cL_drawn 11 = .ok (.iadd, 1) := by decide +kernel
theorem dL_drawn_12 : decode cL_drawn 12 = .ok (.goto 27, 3) := by decide +kernel
theorem dL_drawn_15 : decode cL_drawn 15 = .ok (.aload_n 0, 1) := by decide +kernel
theorem dL_drawn_16 : decode cL_drawn 16 = .ok (.iload_n 1, 1) := by decide +kernel
theorem dL_drawn_17 : decode cL_drawn 17 = .ok (.aload_n 0, 1) := by decide +kernel
theorem dL_drawn_18 : decode cL_drawn 18 = .ok (.arraylength, 1) := by decide +kernel
theorem dL_drawn_19 : decode cL_drawn 19 = .ok (.irem, 1) := by decide +kernel
theorem dL_drawn_20 : decode cL_drawn 20 = .ok (.iaload, 1) := by decide +kernel
theorem dL_drawn_21 : decode cL_drawn 21 = .ok (.iload_n 1, 1) := by decide +kernel
theorem dL_drawn_22 : decode cL_drawn 22 = .ok (.bipush 7, 2) := by decide +kernel
theorem dL_drawn_24 : decode cL_drawn 24 = .ok (.irem, 1) := by decide +kernel
theorem dL_drawn_25 : decode cL_drawn 25 = .ok (.ishr, 1) := by decide +kernel
theorem dL_drawn_26 : decode cL_drawn 26 = .ok (.iload_n 1, 1) := by decide +kernel
theorem dL_drawn_27 : decode cL_drawn 27 = .ok (.aload_n 0, 1) := by decide +kernel
theorem dL_drawn_28 : decode cL_drawn 28 = .ok (.arraylength, 1) := by decide +kernel
theorem dL_drawn_29 : decode cL_drawn 29 = .ok (.idiv, 1) := by decide +kernel
theorem dL_drawn_30 : decode cL_drawn 30 = .ok (.bipush 31, 2) := by decide +kernel
theorem dL_drawn_32 : decode cL_drawn 32 = .ok (.imul, 1) := by decide +kernel
theorem dL_drawn_33 : decode cL_drawn 33 = .ok (.ixor, 1) := by decide +kernel
theorem dL_drawn_34 : decode cL_drawn 34 = .ok (.iload_n 1, 1) := by decide +kernel
theorem dL_drawn_35 : decode cL_drawn 35 = .ok (.ldc 8, 2) := by decide +kernel
theorem dL_drawn_37 : decode cL_drawn 37 = .ok (.imul, 1) := by decide +kernel
theorem dL_drawn_38 : decode cL_drawn 38 = .ok (.ixor, 1) := by decide +kernel
theorem dL_drawn_39 : decode cL_drawn 39 = .ok (.ireturn, 1) := by decide +kernel
theorem dL_seen_0 : decode cL_seen 0 = .ok (.ldc2_w 9, 3) := by decide +kernel
theorem dL_seen_3 : decode cL_seen 3 = .ok (.lstore_n 1, 1) := by decide +kernel
theorem dL_seen_4 : decode cL_seen 4 = .ok (.iconst 0, 1) := by decide +kernel
theorem dL_seen_5 : decode cL_seen 5 = .ok (.istore_n 3, 1) := by decide +kernel
theorem dL_seen_6 : decode cL_seen 6 = .ok (.iload_n 3, 1) := by decide +kernel
theorem dL_seen_7 : decode cL_seen 7 = .ok (.bipush 11, 2) := by decide +kernel
theorem dL_seen_9 : decode cL_seen 9 = .ok (.if_icmp .ge 22, 3) := by decide +kernel
theorem dL_seen_12 : decode cL_seen 12 = .ok (.ldc2_w 11, 3) := by decide +kernel
theorem dL_seen_15 : decode cL_seen 15 = .ok (.lload_n 1, 1) := by decide +kernel
theorem dL_seen_16 : decode cL_seen 16 = .ok (.lmul, 1) := by decide +kernel
theorem dL_seen_17 : decode cL_seen 17 = .ok (.aload_n 0, 1) := by decide +kernel
theorem dL_seen_18 : decode cL_seen 18 = .ok (.iload_n 3, 1) := by decide +kernel
theorem dL_seen_19 : decode cL_seen 19 = .ok (.invokevirtual 13, 3) := by decide +kernel
theorem dL_seen_22 : decode cL_seen 22 = .ok (.i2l, 1) := by decide +kernel
theorem dL_seen_23 : decode cL_seen 23 = .ok (.ladd, 1) := by decide +kernel
theorem dL_seen_24 : decode cL_seen 24 = .ok (.lstore_n 1, 1) := by decide +kernel
theorem dL_seen_25 : decode cL_seen 25 = .ok (.iinc 3 1, 3) := by decide +kernel
theorem dL_seen_28 : decode cL_seen 28 = .ok (.goto (-22), 3) := by decide +kernel
theorem dL_seen_31 : decode cL_seen 31 = .ok (.iconst 0, 1) := by decide +kernel
theorem dL_seen_32 : decode cL_seen 32 = .ok (.istore_n 3, 1) := by decide +kernel
theorem dL_seen_33 : decode cL_seen 33 = .ok (.iload_n 3, 1) := by decide +kernel
theorem dL_seen_34 : decode cL_seen 34 = .ok (.iconst 5, 1) := by decide +kernel
theorem dL_seen_35 : decode cL_seen 35 = .ok (.aload_n 0, 1) := by decide +kernel
theorem dL_seen_36 : decode cL_seen 36 = .ok (.iconst 0, 1) := by decide +kernel
theorem dL_seen_37 : decode cL_seen 37 = .ok (.invokevirtual 13, 3) := by decide +kernel
theorem dL_seen_40 : decode cL_seen 40 = .ok (.imul, 1) := by decide +kernel
theorem dL_seen_41 : decode cL_seen 41 = .ok (.if_icmp .ge 27, 3) := by decide +kernel
theorem dL_seen_44 : decode cL_seen 44 = .ok (.ldc2_w 11, 3) := by decide +kernel
theorem dL_seen_47 : decode cL_seen 47 = .ok (.lload_n 1, 1) := by decide +kernel
theorem dL_seen_48 : decode cL_seen 48 = .ok (.lmul, 1) := by decide +kernel
theorem dL_seen_49 : decode cL_seen 49 = .ok (.aload_n 0, 1) := by decide +kernel
theorem dL_seen_50 : decode cL_seen 50 = .ok (.iload_n 3, 1) := by decide +kernel
theorem dL_seen_51 : decode cL_seen 51 = .ok (.iconst 5, 1) := by decide +kernel
theorem dL_seen_52 : decode cL_seen 52 = .ok (.idiv, 1) := by decide +kernel
theorem dL_seen_53 : decode cL_seen 53 = .ok (.iload_n 3, 1) := by decide +kernel
theorem dL_seen_54 : decode cL_seen 54 = .ok (.iconst 5, 1) := by decide +kernel
theorem dL_seen_55 : decode cL_seen 55 = .ok (.irem, 1) := by decide +kernel
theorem dL_seen_56 : decode cL_seen 56 = .ok (.invokevirtual 19, 3) := by decide +kernel
theorem dL_seen_59 : decode cL_seen 59 = .ok (.i2l, 1) := by decide +kernel
theorem dL_seen_60 : decode cL_seen 60 = .ok (.ladd, 1) := by decide +kernel
theorem dL_seen_61 : decode cL_seen 61 = .ok (.lstore_n 1, 1) := by decide +kernel
theorem dL_seen_62 : decode cL_seen 62 = .ok (.iinc 3 1, 3) := by decide +kernel
theorem dL_seen_65 : decode cL_seen 65 = .ok (.goto (-32), 3) := by decide +kernel
theorem dL_seen_68 : decode cL_seen 68 = .ok (.iconst 0, 1) := by decide +kernel
theorem dL_seen_69 : decode cL_seen 69 = .ok (.istore_n 3, 1) := by decide +kernel
theorem dL_seen_70 : decode cL_seen 70 = .ok (.iload_n 3, 1) := by decide +kernel
theorem dL_seen_71 : decode cL_seen 71 = .ok (.bipush 10, 2) := by decide +kernel
theorem dL_seen_73 : decode cL_seen 73 = .ok (.aload_n 0, 1) := by decide +kernel
theorem dL_seen_74 : decode cL_seen 74 = .ok (.iconst 1, 1) := by decide +kernel
theorem dL_seen_75 : decode cL_seen 75 = .ok (.invokevirtual 13, 3) := by decide +kernel
theorem dL_seen_78 : decode cL_seen 78 = .ok (.imul, 1) := by decide +kernel
theorem dL_seen_79 : decode cL_seen 79 = .ok (.if_icmp .ge 29, 3) := by decide +kernel
theorem dL_seen_82 : decode cL_seen 82 = .ok (.ldc2_w 11, 3) := by decide +kernel
theorem dL_seen_85 : decode cL_seen 85 = .ok (.lload_n 1, 1) := by decide +kernel
theorem dL_seen_86 : decode cL_seen 86 = .ok (.lmul, 1) := by decide +kernel
theorem dL_seen_87 : decode cL_seen 87 = .ok (.aload_n 0, 1) := by decide +kernel
theorem dL_seen_88 : decode cL_seen 88 = .ok (.iload_n 3, 1) := by decide +kernel
theorem dL_seen_89 : decode cL_seen 89 = .ok (.bipush 10, 2) := by decide +kernel
theorem dL_seen_91 : decode cL_seen 91 = .ok (.idiv, 1) := by decide +kernel
theorem dL_seen_92 : decode cL_seen 92 = .ok (.iload_n 3, 1) := by decide +kernel
theorem dL_seen_93 : decode cL_seen 93 = .ok (.bipush 10, 2) := by decide +kernel
theorem dL_seen_95 : decode cL_seen 95 = .ok (.irem, 1) := by decide +kernel
theorem dL_seen_96 : decode cL_seen 96 = .ok (.invokevirtual 23, 3) := by decide +kernel
theorem dL_seen_99 : decode cL_seen 99 = .ok (.i2l, 1) := by decide +kernel
theorem dL_seen_100 : decode cL_seen 100 = .ok (.ladd, 1) := by decide +kernel
theorem dL_seen_101 : decode cL_seen 101 = .ok (.lstore_n 1, 1) := by decide +kernel
theorem dL_seen_102 : decode cL_seen 102 = .ok (.iinc 3 1, 3) := by decide +kernel
theorem dL_seen_105 : decode cL_seen 105 = .ok (.goto (-35), 3) := by decide +kernel
theorem dL_seen_108 : decode cL_seen 108 = .ok (.iconst 0, 1) := by decide +kernel
theorem dL_seen_109 : decode cL_seen 109 = .ok (.istore_n 3, 1) := by decide +kernel
theorem dL_seen_110 : decode cL_seen 110 = .ok (.iload_n 3, 1) := by decide +kernel
theorem dL_seen_111 : decode cL_seen 111 = .ok (.bipush 6, 2) := by decide +kernel
theorem dL_seen_113 : decode cL_seen 113 = .ok (.aload_n 0, 1) := by decide +kernel
theorem dL_seen_114 : decode cL_seen 114 = .ok (.iconst 1, 1) := by decide +kernel
theorem dL_seen_115 : decode cL_seen 115 = .ok (.invokevirtual 13, 3) := by decide +kernel
theorem dL_seen_118 : decode cL_seen 118 = .ok (.imul, 1) := by decide +kernel
theorem dL_seen_119 : decode cL_seen 119 = .ok (.if_icmp .ge 29, 3) := by decide +kernel
theorem dL_seen_122 : decode cL_seen 122 = .ok (.ldc2_w 11, 3) := by decide +kernel
theorem dL_seen_125 : decode cL_seen 125 = .ok (.lload_n 1, 1) := by decide +kernel
theorem dL_seen_126 : decode cL_seen 126 = .ok (.lmul, 1) := by decide +kernel
theorem dL_seen_127 : decode cL_seen 127 = .ok (.aload_n 0, 1) := by decide +kernel
theorem dL_seen_128 : decode cL_seen 128 = .ok (.iload_n 3, 1) := by decide +kernel
theorem dL_seen_129 : decode cL_seen 129 = .ok (.bipush 6, 2) := by decide +kernel
theorem dL_seen_131 : decode cL_seen 131 = .ok (.idiv, 1) := by decide +kernel
theorem dL_seen_132 : decode cL_seen 132 = .ok (.iload_n 3, 1) := by decide +kernel
theorem dL_seen_133 : decode cL_seen 133 = .ok (.bipush 6, 2) := by decide +kernel
theorem dL_seen_135 : decode cL_seen 135 = .ok (.irem, 1) := by decide +kernel
theorem dL_seen_136 : decode cL_seen 136 = .ok (.invokevirtual 26, 3) := by decide +kernel
theorem dL_seen_139 : decode cL_seen 139 = .ok (.i2l, 1) := by decide +kernel
theorem dL_seen_140 : decode cL_seen 140 = .ok (.ladd, 1) := by decide +kernel
theorem dL_seen_141 : decode cL_seen 141 = .ok (.lstore_n 1, 1) := by decide +kernel
theorem dL_seen_142 : decode cL_seen 142 = .ok (.iinc 3 1, 3) := by decide +kernel
theorem dL_seen_145 : decode cL_seen 145 = .ok (.goto (-35), 3) := by decide +kernel
theorem dL_seen_148 : decode cL_seen 148 = .ok (.ldc2_w 11, 3) := by decide +kernel
theorem dL_seen_151 : decode cL_seen 151 = .ok (.lload_n 1, 1) := by decide +kernel
theorem dL_seen_152 : decode cL_seen 152 = .ok (.lmul, 1) := by decide +kernel
theorem dL_seen_153 : decode cL_seen 153 = .ok (.aload_n 0, 1) := by decide +kernel
theorem dL_seen_154 : decode cL_seen 154 = .ok (.invokevirtual 29, 3) := by decide +kernel
theorem dL_seen_157 : decode cL_seen 157 = .ok (.i2l, 1) := by decide +kernel
theorem dL_seen_158 : decode cL_seen 158 = .ok (.ladd, 1) := by decide +kernel
theorem dL_seen_159 : decode cL_seen 159 = .ok (.lreturn, 1) := by decide +kernel
theorem dL_refusesAny_0 : decode cL_refusesAny 0 = .ok (.iload_n 1, 1) := by decide +kernel
theorem dL_refusesAny_1 : decode cL_refusesAny 1 = .ok (.ifCond .ne 7, 3) := by decide +kernel
theorem dL_refusesAny_4 : decode cL_refusesAny 4 = .ok (.iconst (-1), 1) := by decide +kernel
theorem dL_refusesAny_5 : decode cL_refusesAny 5 = .ok (.goto 8, 3) := by decide +kernel
theorem dL_refusesAny_8 : decode cL_refusesAny 8 = .ok (.aload_n 0, 1) := by decide +kernel
theorem dL_refusesAny_9 : decode cL_refusesAny 9 = .ok (.iconst 0, 1) := by decide +kernel
theorem dL_refusesAny_10 : decode cL_refusesAny 10 = .ok (.invokevirtual 13, 3) := by decide +kernel
theorem dL_refusesAny_13 : decode cL_refusesAny 13 = .ok (.istore_n 2, 1) := by decide +kernel
theorem dL_refusesAny_14 : decode cL_refusesAny 14 = .ok (.iload_n 1, 1) := by decide +kernel
theorem dL_refusesAny_15 : decode cL_refusesAny 15 = .ok (.ifCond .ne 7, 3) := by decide +kernel
theorem dL_refusesAny_18 : decode cL_refusesAny 18 = .ok (.iconst (-1), 1) := by decide +kernel
theorem dL_refusesAny_19 : decode cL_refusesAny 19 = .ok (.goto 8, 3) := by decide +kernel
theorem dL_refusesAny_22 : decode cL_refusesAny 22 = .ok (.aload_n 0, 1) := by decide +kernel
theorem dL_refusesAny_23 : decode cL_refusesAny 23 = .ok (.iconst 1, 1) := by decide +kernel
theorem dL_refusesAny_24 : decode cL_refusesAny 24 = .ok (.invokevirtual 13, 3) := by decide +kernel
theorem dL_refusesAny_27 : decode cL_refusesAny 27 = .ok (.istore_n 3, 1) := by decide +kernel
theorem dL_refusesAny_28 : decode cL_refusesAny 28 = .ok (.aload_n 0, 1) := by decide +kernel
theorem dL_refusesAny_29 : decode cL_refusesAny 29 = .ok (.iload_n 1, 1) := by decide +kernel
theorem dL_refusesAny_30 : decode cL_refusesAny 30 = .ok (.ifCond .ne 7, 3) := by decide +kernel
theorem dL_refusesAny_33 : decode cL_refusesAny 33 = .ok (.iconst 0, 1) := by decide +kernel
theorem dL_refusesAny_34 : decode cL_refusesAny 34 = .ok (.goto 5, 3) := by decide +kernel
theorem dL_refusesAny_37 : decode cL_refusesAny 37 = .ok (.bipush 6, 2) := by decide +kernel
theorem dL_refusesAny_39 : decode cL_refusesAny 39 = .ok (.iconst 5, 1) := by decide +kernel
theorem dL_refusesAny_40 : decode cL_refusesAny 40 = .ok (.invokevirtual 33, 3) := by decide +kernel
theorem dL_refusesAny_43 : decode cL_refusesAny 43 = .ok (.bipush (-2), 2) := by decide +kernel
theorem dL_refusesAny_45 : decode cL_refusesAny 45 = .ok (.if_icmp .ne 193, 3) := by decide +kernel
theorem dL_refusesAny_48 : decode cL_refusesAny 48 = .ok (.aload_n 0, 1) := by decide +kernel
theorem dL_refusesAny_49 : decode cL_refusesAny 49 = .ok (.iconst 3, 1) := by decide +kernel
theorem dL_refusesAny_50 : decode cL_refusesAny 50 = .ok (.iload_n 1, 1) := by decide +kernel
theorem dL_refusesAny_51 : decode cL_refusesAny 51 = .ok (.ifCond .ne 7, 3) := by decide +kernel
theorem dL_refusesAny_54 : decode cL_refusesAny 54 = .ok (.iconst 0, 1) := by decide +kernel
theorem dL_refusesAny_55 : decode cL_refusesAny 55 = .ok (.goto 6, 3) := by decide +kernel
theorem dL_refusesAny_58 : decode cL_refusesAny 58 = .ok (.sipush 1000, 3) := by decide +kernel
theorem dL_refusesAny_61 : decode cL_refusesAny 61 = .ok (.invokevirtual 33, 3) := by decide +kernel
theorem dL_refusesAny_64 : decode cL_refusesAny 64 = .ok (.bipush (-2), 2) := by decide +kernel
theorem dL_refusesAny_66 : decode cL_refusesAny 66 = .ok (.if_icmp .ne 172, 3) := by decide +kernel
theorem dL_refusesAny_69 : decode cL_refusesAny 69 = .ok (.aload_n 0, 1) := by decide +kernel
theorem dL_refusesAny_70 : decode cL_refusesAny 70 = .ok (.iload_n 1, 1) := by decide +kernel
theorem dL_refusesAny_71 : decode cL_refusesAny 71 = .ok (.ifCond .ne 7, 3) := by decide +kernel
theorem dL_refusesAny_74 : decode cL_refusesAny 74 = .ok (.iconst 0, 1) := by decide +kernel
theorem dL_refusesAny_75 : decode cL_refusesAny 75 = .ok (.goto 5, 3) := by decide +kernel
theorem dL_refusesAny_78 : decode cL_refusesAny 78 = .ok (.bipush 10, 2) := by decide +kernel
theorem dL_refusesAny_80 : decode cL_refusesAny 80 = .ok (.iconst 5, 1) := by decide +kernel
theorem dL_refusesAny_81 : decode cL_refusesAny 81 = .ok (.invokevirtual 38, 3) := by decide +kernel
theorem dL_refusesAny_84 : decode cL_refusesAny 84 = .ok (.bipush (-2), 2) := by decide +kernel
theorem dL_refusesAny_86 : decode cL_refusesAny 86 = .ok (.if_icmp .ne 152, 3) := by decide +kernel
theorem dL_refusesAny_89 : decode cL_refusesAny 89 = .ok (.aload_n 0, 1) := by decide +kernel
theorem dL_refusesAny_90 : decode cL_refusesAny 90 = .ok (.iconst 5, 1) := by decide +kernel
theorem dL_refusesAny_91 : decode cL_refusesAny 91 = .ok (.iload_n 1, 1) := by decide +kernel
theorem dL_refusesAny_92 : decode cL_refusesAny 92 = .ok (.ifCond .ne 7, 3) := by decide +kernel
theorem dL_refusesAny_95 : decode cL_refusesAny 95 = .ok (.iconst 0, 1) := by decide +kernel
theorem dL_refusesAny_96 : decode cL_refusesAny 96 = .ok (.goto 6, 3) := by decide +kernel
theorem dL_refusesAny_99 : decode cL_refusesAny 99 = .ok (.sipush 10000, 3) := by decide +kernel
theorem dL_refusesAny_102 : decode cL_refusesAny 102 = .ok (.invokevirtual 38, 3) := by decide +kernel
theorem dL_refusesAny_105 : decode cL_refusesAny 105 = .ok (.bipush (-2), 2) := by decide +kernel
theorem dL_refusesAny_107 : decode cL_refusesAny 107 = .ok (.if_icmp .ne 131, 3) := by decide +kernel
theorem dL_refusesAny_110 : decode cL_refusesAny 110 = .ok (.aload_n 0, 1) := by decide +kernel
theorem dL_refusesAny_111 : decode cL_refusesAny 111 = .ok (.iload_n 3, 1) := by decide +kernel
theorem dL_refusesAny_112 : decode cL_refusesAny 112 = .ok (.iconst 1, 1) := by decide +kernel
theorem dL_refusesAny_113 : decode cL_refusesAny 113 = .ok (.iconst 0, 1) := by decide +kernel
theorem dL_refusesAny_114 : decode cL_refusesAny 114 = .ok (.invokevirtual 41, 3) := by decide +kernel
theorem dL_refusesAny_117 : decode cL_refusesAny 117 = .ok (.iconst (-1), 1) := by decide +kernel
theorem dL_refusesAny_118 : decode cL_refusesAny 118 = .ok (.if_icmp .ne 120, 3) := by decide +kernel
theorem dL_refusesAny_121 : decode cL_refusesAny 121 = .ok (.aload_n 0, 1) := by decide +kernel
theorem dL_refusesAny_122 : decode cL_refusesAny 122 = .ok (.iconst 0, 1) := by decide +kernel
theorem dL_refusesAny_123 : decode cL_refusesAny 123 = .ok (.iconst 1, 1) := by decide +kernel
theorem dL_refusesAny_124 : decode cL_refusesAny 124 = .ok (.iload_n 1, 1) := by decide +kernel
theorem dL_refusesAny_125 : decode cL_refusesAny 125 = .ok (.ifCond .ne 7, 3) := by decide +kernel
theorem dL_refusesAny_128 : decode cL_refusesAny 128 = .ok (.iconst 0, 1) := by decide +kernel
theorem dL_refusesAny_129 : decode cL_refusesAny 129 = .ok (.goto 6, 3) := by decide +kernel
theorem dL_refusesAny_132 : decode cL_refusesAny 132 = .ok (.sipush 10000, 3) := by decide +kernel
theorem dL_refusesAny_135 : decode cL_refusesAny 135 = .ok (.invokevirtual 41, 3) := by decide +kernel
theorem dL_refusesAny_138 : decode cL_refusesAny 138 = .ok (.bipush (-2), 2) := by decide +kernel
theorem dL_refusesAny_140 : decode cL_refusesAny 140 = .ok (.if_icmp .ne 98, 3) := by decide +kernel
theorem dL_refusesAny_143 : decode cL_refusesAny 143 = .ok (.aload_n 0, 1) := by decide +kernel
theorem dL_refusesAny_144 : decode cL_refusesAny 144 = .ok (.iconst 0, 1) := by decide +kernel
theorem dL_refusesAny_145 : decode cL_refusesAny 145 = .ok (.iconst 0, 1) := by decide +kernel
theorem dL_refusesAny_146 : decode cL_refusesAny 146 = .ok (.iload_n 1, 1) := by decide +kernel
theorem dL_refusesAny_147 : decode cL_refusesAny 147 = .ok (.ifCond .ne 7, 3) := by decide +kernel
theorem dL_refusesAny_150 : decode cL_refusesAny 150 = .ok (.iconst 0, 1) := by decide +kernel
theorem dL_refusesAny_151 : decode cL_refusesAny 151 = .ok (.goto 5, 3) := by decide +kernel
theorem dL_refusesAny_154 : decode cL_refusesAny 154 = .ok (.bipush 10, 2) := by decide +kernel
theorem dL_refusesAny_156 : decode cL_refusesAny 156 = .ok (.invokevirtual 41, 3) := by decide +kernel
theorem dL_refusesAny_159 : decode cL_refusesAny 159 = .ok (.bipush (-2), 2) := by decide +kernel
theorem dL_refusesAny_161 : decode cL_refusesAny 161 = .ok (.if_icmp .ne 77, 3) := by decide +kernel
theorem dL_refusesAny_164 : decode cL_refusesAny 164 = .ok (.aload_n 0, 1) := by decide +kernel
theorem dL_refusesAny_165 : decode cL_refusesAny 165 = .ok (.iconst 0, 1) := by decide +kernel
theorem dL_refusesAny_166 : decode cL_refusesAny 166 = .ok (.iconst 0, 1) := by decide +kernel
theorem dL_refusesAny_167 : decode cL_refusesAny 167 = .ok (.aload_n 0, 1) := by decide +kernel
theorem dL_refusesAny_168 : decode cL_refusesAny 168 = .ok (.iconst 0, 1) := by decide +kernel
theorem dL_refusesAny_169 : decode cL_refusesAny 169 = .ok (.iconst 0, 1) := by decide +kernel
theorem dL_refusesAny_170 : decode cL_refusesAny 170 = .ok (.invokevirtual 23, 3) := by decide +kernel
theorem dL_refusesAny_173 : decode cL_refusesAny 173 = .ok (.invokevirtual 41, 3) := by decide +kernel
theorem dL_refusesAny_176 : decode cL_refusesAny 176 = .ok (.bipush (-5), 2) := by decide +kernel
theorem dL_refusesAny_178 : decode cL_refusesAny 178 = .ok (.if_icmp .ne 60, 3) := by decide +kernel
theorem dL_refusesAny_181 : decode cL_refusesAny 181 = .ok (.aload_n 0, 1) := by decide +kernel
theorem dL_refusesAny_182 : decode cL_refusesAny 182 = .ok (.iconst 0, 1) := by decide +kernel
theorem dL_refusesAny_183 : decode cL_refusesAny 183 = .ok (.iconst 1, 1) := by decide +kernel
theorem dL_refusesAny_184 : decode cL_refusesAny 184 = .ok (.aload_n 0, 1) := by decide +kernel
theorem dL_refusesAny_185 : decode cL_refusesAny 185 = .ok (.iconst 0, 1) := by decide +kernel
theorem dL_refusesAny_186 : decode cL_refusesAny 186 = .ok (.iconst 1, 1) := by decide +kernel
theorem dL_refusesAny_187 : decode cL_refusesAny 187 = .ok (.invokevirtual 23, 3) := by decide +kernel
theorem dL_refusesAny_190 : decode cL_refusesAny 190 = .ok (.invokevirtual 41, 3) := by decide +kernel
theorem dL_refusesAny_193 : decode cL_refusesAny 193 = .ok (.bipush (-5), 2) := by decide +kernel
theorem dL_refusesAny_195 : decode cL_refusesAny 195 = .ok (.if_icmp .ne 43, 3) := by decide +kernel
theorem dL_refusesAny_198 : decode cL_refusesAny 198 = .ok (.aload_n 0, 1) := by decide +kernel
theorem dL_refusesAny_199 : decode cL_refusesAny 199 = .ok (.iload_n 3, 1) := by decide +kernel
theorem dL_refusesAny_200 : decode cL_refusesAny 200 = .ok (.iconst 0, 1) := by decide +kernel
theorem dL_refusesAny_201 : decode cL_refusesAny 201 = .ok (.invokevirtual 45, 3) := by decide +kernel
theorem dL_refusesAny_204 : decode cL_refusesAny 204 = .ok (.iconst (-1), 1) := by decide +kernel
theorem dL_refusesAny_205 : decode cL_refusesAny 205 = .ok (.if_icmp .ne 33, 3) := by decide +kernel
theorem dL_refusesAny_208 : decode cL_refusesAny 208 = .ok (.aload_n 0, 1) := by decide +kernel
theorem dL_refusesAny_209 : decode cL_refusesAny 209 = .ok (.iconst 0, 1) := by decide +kernel
theorem dL_refusesAny_210 : decode cL_refusesAny 210 = .ok (.iload_n 2, 1) := by decide +kernel
theorem dL_refusesAny_211 : decode cL_refusesAny 211 = .ok (.invokevirtual 45, 3) := by decide +kernel
theorem dL_refusesAny_214 : decode cL_refusesAny 214 = .ok (.iconst (-1), 1) := by decide +kernel
theorem dL_refusesAny_215 : decode cL_refusesAny 215 = .ok (.if_icmp .ne 23, 3) := by decide +kernel
theorem dL_refusesAny_218 : decode cL_refusesAny 218 = .ok (.aload_n 0, 1) := by decide +kernel
theorem dL_refusesAny_219 : decode cL_refusesAny 219 = .ok (.iload_n 3, 1) := by decide +kernel
theorem dL_refusesAny_220 : decode cL_refusesAny 220 = .ok (.iconst 0, 1) := by decide +kernel
theorem dL_refusesAny_221 : decode cL_refusesAny 221 = .ok (.invokevirtual 48, 3) := by decide +kernel
theorem dL_refusesAny_224 : decode cL_refusesAny 224 = .ok (.iconst (-1), 1) := by decide +kernel
theorem dL_refusesAny_225 : decode cL_refusesAny 225 = .ok (.if_icmp .ne 13, 3) := by decide +kernel
theorem dL_refusesAny_228 : decode cL_refusesAny 228 = .ok (.aload_n 0, 1) := by decide +kernel
theorem dL_refusesAny_229 : decode cL_refusesAny 229 = .ok (.iconst 0, 1) := by decide +kernel
theorem dL_refusesAny_230 : decode cL_refusesAny 230 = .ok (.iload_n 2, 1) := by decide +kernel
theorem dL_refusesAny_231 : decode cL_refusesAny 231 = .ok (.invokevirtual 48, 3) := by decide +kernel
theorem dL_refusesAny_234 : decode cL_refusesAny 234 = .ok (.iconst (-1), 1) := by decide +kernel
theorem dL_refusesAny_235 : decode cL_refusesAny 235 = .ok (.if_icmp .eq 5, 3) := by decide +kernel
theorem dL_refusesAny_238 : decode cL_refusesAny 238 = .ok (.iconst 0, 1) := by decide +kernel
theorem dL_refusesAny_239 : decode cL_refusesAny 239 = .ok (.ireturn, 1) := by decide +kernel
theorem dL_refusesAny_240 : decode cL_refusesAny 240 = .ok (.aload_n 0, 1) := by decide +kernel
theorem dL_refusesAny_241 : decode cL_refusesAny 241 = .ok (.iload_n 3, 1) := by decide +kernel
theorem dL_refusesAny_242 : decode cL_refusesAny 242 = .ok (.iconst 0, 1) := by decide +kernel
theorem dL_refusesAny_243 : decode cL_refusesAny 243 = .ok (.invokevirtual 51, 3) := by decide +kernel
theorem dL_refusesAny_246 : decode cL_refusesAny 246 = .ok (.iconst (-1), 1) := by decide +kernel
theorem dL_refusesAny_247 : decode cL_refusesAny 247 = .ok (.if_icmp .ne 166, 3) := by decide +kernel
theorem dL_refusesAny_250 : decode cL_refusesAny 250 = .ok (.aload_n 0, 1) := by decide +kernel
theorem dL_refusesAny_251 : decode cL_refusesAny 251 = .ok (.iconst 0, 1) := by decide +kernel
theorem dL_refusesAny_252 : decode cL_refusesAny 252 = .ok (.iload_n 1, 1) := by decide +kernel
theorem dL_refusesAny_253 : decode cL_refusesAny 253 = .ok (.ifCond .ne 7, 3) := by decide +kernel
theorem dL_refusesAny_256 : decode cL_refusesAny 256 = .ok (.iconst 0, 1) := by decide +kernel
theorem dL_refusesAny_257 : decode cL_refusesAny 257 = .ok (.goto 6, 3) := by decide +kernel
theorem dL_refusesAny_260 : decode cL_refusesAny 260 = .ok (.sipush 1000, 3) := by decide +kernel
theorem dL_refusesAny_263 : decode cL_refusesAny 263 = .ok (.invokevirtual 51, 3) := by decide +kernel
theorem dL_refusesAny_266 : decode cL_refusesAny 266 = .ok (.bipush (-2), 2) := by decide +kernel
theorem dL_refusesAny_268 : decode cL_refusesAny 268 = .ok (.if_icmp .ne 145, 3) := by decide +kernel
theorem dL_refusesAny_271 : decode cL_refusesAny 271 = .ok (.aload_n 0, 1) := by decide +kernel
theorem dL_refusesAny_272 : decode cL_refusesAny 272 = .ok (.iload_n 3, 1) := by decide +kernel
theorem dL_refusesAny_273 : decode cL_refusesAny 273 = .ok (.invokevirtual 54, 3) := by decide +kernel
theorem dL_refusesAny_276 : decode cL_refusesAny 276 = .ok (.iconst (-1), 1) := by decide +kernel
theorem dL_refusesAny_277 : decode cL_refusesAny 277 = .ok (.if_icmp .ne 136, 3) := by decide +kernel
theorem dL_refusesAny_280 : decode cL_refusesAny 280 = .ok (.aload_n 0, 1) := by decide +kernel
theorem dL_refusesAny_281 : decode cL_refusesAny 281 = .ok (.iload_n 3, 1) := by decide +kernel
theorem dL_refusesAny_282 : decode cL_refusesAny 282 = .ok (.bipush 9, 2) := by decide +kernel
theorem dL_refusesAny_284 : decode cL_refusesAny 284 = .ok (.invokevirtual 57, 3) := by decide +kernel
theorem dL_refusesAny_287 : decode cL_refusesAny 287 = .ok (.iconst (-1), 1) := by decide +kernel
theorem dL_refusesAny_288 : decode cL_refusesAny 288 = .ok (.if_icmp .ne 125, 3) := by decide +kernel
theorem dL_refusesAny_291 : decode cL_refusesAny 291 = .ok (.aload_n 0, 1) := by decide +kernel
theorem dL_refusesAny_292 : decode cL_refusesAny 292 = .ok (.iconst 0, 1) := by decide +kernel
theorem dL_refusesAny_293 : decode cL_refusesAny 293 = .ok (.iload_n 1, 1) := by decide +kernel
theorem dL_refusesAny_294 : decode cL_refusesAny 294 = .ok (.ifCond .ne 7, 3) := by decide +kernel
theorem dL_refusesAny_297 : decode cL_refusesAny 297 = .ok (.iconst (-1), 1) := by decide +kernel
theorem dL_refusesAny_298 : decode cL_refusesAny 298 = .ok (.goto 4, 3) := by decide +kernel
theorem dL_refusesAny_301 : decode cL_refusesAny 301 = .ok (.iconst 3, 1) := by decide +kernel
theorem dL_refusesAny_302 : decode cL_refusesAny 302 = .ok (.invokevirtual 57, 3) := by decide +kernel
theorem dL_refusesAny_305 : decode cL_refusesAny 305 = .ok (.bipush (-2), 2) := by decide +kernel
theorem dL_refusesAny_307 : decode cL_refusesAny 307 = .ok (.if_icmp .ne 106, 3) := by decide +kernel
theorem dL_refusesAny_310 : decode cL_refusesAny 310 = .ok (.aload_n 0, 1) := by decide +kernel
theorem dL_refusesAny_311 : decode cL_refusesAny 311 = .ok (.iload_n 3, 1) := by decide +kernel
theorem dL_refusesAny_312 : decode cL_refusesAny 312 = .ok (.invokevirtual 60, 3) := by decide +kernel
theorem dL_refusesAny_315 : decode cL_refusesAny 315 = .ok (.iconst (-1), 1) := by decide +kernel
theorem dL_refusesAny_316 : decode cL_refusesAny 316 = .ok (.if_icmp .ne 97, 3) := by decide +kernel
theorem dL_refusesAny_319 : decode cL_refusesAny 319 = .ok (.aload_n 0, 1) := by decide +kernel
theorem dL_refusesAny_320 : decode cL_refusesAny 320 = .ok (.iload_n 2, 1) := by decide +kernel
theorem dL_refusesAny_321 : decode cL_refusesAny 321 = .ok (.bipush 9, 2) := by decide +kernel
theorem dL_refusesAny_323 : decode cL_refusesAny 323 = .ok (.invokevirtual 19, 3) := by decide +kernel
theorem dL_refusesAny_326 : decode cL_refusesAny 326 = .ok (.iconst (-1), 1) := by decide +kernel
theorem dL_refusesAny_327 : decode cL_refusesAny 327 = .ok (.if_icmp .ne 86, 3) := by decide +kernel
theorem dL_refusesAny_330 : decode cL_refusesAny 330 = .ok (.aload_n 0, 1) := by decide +kernel
theorem dL_refusesAny_331 : decode cL_refusesAny 331 = .ok (.iconst 0, 1) := by decide +kernel
theorem dL_refusesAny_332 : decode cL_refusesAny 332 = .ok (.iload_n 1, 1) := by decide +kernel
theorem dL_refusesAny_333 : decode cL_refusesAny 333 = .ok (.ifCond .ne 7, 3) := by decide +kernel
theorem dL_refusesAny_336 : decode cL_refusesAny 336 = .ok (.iconst (-1), 1) := by decide +kernel
theorem dL_refusesAny_337 : decode cL_refusesAny 337 = .ok (.goto 4, 3) := by decide +kernel
theorem dL_refusesAny_340 : decode cL_refusesAny 340 = .ok (.iconst 5, 1) := by decide +kernel
theorem dL_refusesAny_341 : decode cL_refusesAny 341 = .ok (.invokevirtual 19, 3) := by decide +kernel
theorem dL_refusesAny_344 : decode cL_refusesAny 344 = .ok (.bipush (-2), 2) := by decide +kernel
theorem dL_refusesAny_346 : decode cL_refusesAny 346 = .ok (.if_icmp .ne 67, 3) := by decide +kernel
theorem dL_refusesAny_349 : decode cL_refusesAny 349 = .ok (.aload_n 0, 1) := by decide +kernel
theorem dL_refusesAny_350 : decode cL_refusesAny 350 = .ok (.iload_n 3, 1) := by decide +kernel
theorem dL_refusesAny_351 : decode cL_refusesAny 351 = .ok (.bipush 99, 2) := by decide +kernel
theorem dL_refusesAny_353 : decode cL_refusesAny 353 = .ok (.invokevirtual 23, 3) := by decide +kernel
theorem dL_refusesAny_356 : decode cL_refusesAny 356 = .ok (.iconst (-1), 1) := by decide +kernel
theorem dL_refusesAny_357 : decode cL_refusesAny 357 = .ok (.if_icmp .ne 56, 3) := by decide +kernel
theorem dL_refusesAny_360 : decode cL_refusesAny 360 = .ok (.aload_n 0, 1) := by decide +kernel
theorem dL_refusesAny_361 : decode cL_refusesAny 361 = .ok (.iconst 0, 1) := by decide +kernel
theorem dL_refusesAny_362 : decode cL_refusesAny 362 = .ok (.iload_n 1, 1) := by decide +kernel
theorem dL_refusesAny_363 : decode cL_refusesAny 363 = .ok (.ifCond .ne 7, 3) := by decide +kernel
theorem dL_refusesAny_366 : decode cL_refusesAny 366 = .ok (.iconst (-1), 1) := by decide +kernel
theorem dL_refusesAny_367 : decode cL_refusesAny 367 = .ok (.goto 5, 3) := by decide +kernel
theorem dL_refusesAny_370 : decode cL_refusesAny 370 = .ok (.bipush 10, 2) := by decide +kernel
theorem dL_refusesAny_372 : decode cL_refusesAny 372 = .ok (.invokevirtual 23, 3) := by decide +kernel
theorem dL_refusesAny_375 : decode cL_refusesAny 375 = .ok (.bipush (-2), 2) := by decide +kernel
theorem dL_refusesAny_377 : decode cL_refusesAny 377 = .ok (.if_icmp .ne 36, 3) := by decide +kernel
theorem dL_refusesAny_380 : decode cL_refusesAny 380 = .ok (.aload_n 0, 1) := by decide +kernel
theorem dL_refusesAny_381 : decode cL_refusesAny 381 = .ok (.iload_n 3, 1) := by decide +kernel
theorem dL_refusesAny_382 : decode cL_refusesAny 382 = .ok (.iconst (-1), 1) := by decide +kernel
theorem dL_refusesAny_383 : decode cL_refusesAny 383 = .ok (.invokevirtual 26, 3) := by decide +kernel
theorem dL_refusesAny_386 : decode cL_refusesAny 386 = .ok (.iconst (-1), 1) := by decide +kernel
theorem dL_refusesAny_387 : decode cL_refusesAny 387 = .ok (.if_icmp .ne 26, 3) := by decide +kernel
theorem dL_refusesAny_390 : decode cL_refusesAny 390 = .ok (.aload_n 0, 1) := by decide +kernel
theorem dL_refusesAny_391 : decode cL_refusesAny 391 = .ok (.iconst 0, 1) := by decide +kernel
theorem dL_refusesAny_392 : decode cL_refusesAny 392 = .ok (.iconst (-1), 1) := by decide +kernel
theorem dL_refusesAny_393 : decode cL_refusesAny 393 = .ok (.invokevirtual 26, 3) := by decide +kernel
theorem dL_refusesAny_396 : decode cL_refusesAny 396 = .ok (.bipush (-2), 2) := by decide +kernel
theorem dL_refusesAny_398 : decode cL_refusesAny 398 = .ok (.if_icmp .ne 15, 3) := by decide +kernel
theorem dL_refusesAny_401 : decode cL_refusesAny 401 = .ok (.aload_n 0, 1) := by decide +kernel
theorem dL_refusesAny_402 : decode cL_refusesAny 402 = .ok (.iconst 0, 1) := by decide +kernel
theorem dL_refusesAny_403 : decode cL_refusesAny 403 = .ok (.bipush 6, 2) := by decide +kernel
theorem dL_refusesAny_405 : decode cL_refusesAny 405 = .ok (.invokevirtual 26, 3) := by decide +kernel
theorem dL_refusesAny_408 : decode cL_refusesAny 408 = .ok (.bipush (-5), 2) := by decide +kernel
theorem dL_refusesAny_410 : decode cL_refusesAny 410 = .ok (.if_icmp .eq 5, 3) := by decide +kernel
theorem dL_refusesAny_413 : decode cL_refusesAny 413 = .ok (.iconst 0, 1) := by decide +kernel
theorem dL_refusesAny_414 : decode cL_refusesAny 414 = .ok (.ireturn, 1) := by decide +kernel
theorem dL_refusesAny_415 : decode cL_refusesAny 415 = .ok (.aload_n 0, 1) := by decide +kernel
theorem dL_refusesAny_416 : decode cL_refusesAny 416 = .ok (.iconst (-1), 1) := by decide +kernel
theorem dL_refusesAny_417 : decode cL_refusesAny 417 = .ok (.invokevirtual 63, 3) := by decide +kernel
theorem dL_refusesAny_420 : decode cL_refusesAny 420 = .ok (.bipush (-2), 2) := by decide +kernel
theorem dL_refusesAny_422 : decode cL_refusesAny 422 = .ok (.if_icmp .ne 110, 3) := by decide +kernel
theorem dL_refusesAny_425 : decode cL_refusesAny 425 = .ok (.aload_n 0, 1) := by decide +kernel
theorem dL_refusesAny_426 : decode cL_refusesAny 426 = .ok (.bipush 12, 2) := by decide +kernel
theorem dL_refusesAny_428 : decode cL_refusesAny 428 = .ok (.invokevirtual 63, 3) := by decide +kernel
theorem dL_refusesAny_431 : decode cL_refusesAny 431 = .ok (.bipush (-5), 2) := by decide +kernel
theorem dL_refusesAny_433 : decode cL_refusesAny 433 = .ok (.if_icmp .ne 99, 3) := by decide +kernel
theorem dL_refusesAny_436 : decode cL_refusesAny 436 = .ok (.aload_n 0, 1) := by decide +kernel
theorem dL_refusesAny_437 : decode cL_refusesAny 437 = .ok (.iload_n 3, 1) := by decide +kernel
theorem dL_refusesAny_438 : decode cL_refusesAny 438 = .ok (.iload_n 3, 1) := by decide +kernel
theorem dL_refusesAny_439 : decode cL_refusesAny 439 = .ok (.invokevirtual 66, 3) := by decide +kernel
theorem dL_refusesAny_442 : decode cL_refusesAny 442 = .ok (.iconst (-1), 1) := by decide +kernel
theorem dL_refusesAny_443 : decode cL_refusesAny 443 = .ok (.if_icmp .ne 89, 3) := by decide +kernel
theorem dL_refusesAny_446 : decode cL_refusesAny 446 = .ok (.aload_n 0, 1) := by decide +kernel
theorem dL_refusesAny_447 : decode cL_refusesAny 447 = .ok (.iconst 0, 1) := by decide +kernel
theorem dL_refusesAny_448 : decode cL_refusesAny 448 = .ok (.iload_n 3, 1) := by decide +kernel
theorem dL_refusesAny_449 : decode cL_refusesAny 449 = .ok (.invokevirtual 66, 3) := by decide +kernel
theorem dL_refusesAny_452 : decode cL_refusesAny 452 = .ok (.iconst (-1), 1) := by decide +kernel
theorem dL_refusesAny_453 : decode cL_refusesAny 453 = .ok (.if_icmp .ne 79, 3) := by decide +kernel
theorem dL_refusesAny_456 : decode cL_refusesAny 456 = .ok (.aload_n 0, 1) := by decide +kernel
theorem dL_refusesAny_457 : decode cL_refusesAny 457 = .ok (.iconst 0, 1) := by decide +kernel
theorem dL_refusesAny_458 : decode cL_refusesAny 458 = .ok (.iconst 0, 1) := by decide +kernel
theorem dL_refusesAny_459 : decode cL_refusesAny 459 = .ok (.invokevirtual 66, 3) := by decide +kernel
theorem dL_refusesAny_462 : decode cL_refusesAny 462 = .ok (.bipush (-2), 2) := by decide +kernel
theorem dL_refusesAny_464 : decode cL_refusesAny 464 = .ok (.if_icmp .ne 68, 3) := by decide +kernel
theorem dL_refusesAny_467 : decode cL_refusesAny 467 = .ok (.aload_n 0, 1) := by decide +kernel
theorem dL_refusesAny_468 : decode cL_refusesAny 468 = .ok (.iload_n 3, 1) := by decide +kernel
theorem dL_refusesAny_469 : decode cL_refusesAny 469 = .ok (.iconst 0, 1) := by decide +kernel
theorem dL_refusesAny_470 : decode cL_refusesAny 470 = .ok (.invokevirtual 69, 3) := by decide +kernel
theorem dL_refusesAny_473 : decode cL_refusesAny 473 = .ok (.iconst (-1), 1) := by decide +kernel
theorem dL_refusesAny_474 : decode cL_refusesAny 474 = .ok (.if_icmp .ne 58, 3) := by decide +kernel
theorem dL_refusesAny_477 : decode cL_refusesAny 477 = .ok (.aload_n 0, 1) := by decide +kernel
theorem dL_refusesAny_478 : decode cL_refusesAny 478 = .ok (.iconst 0, 1) := by decide +kernel
theorem dL_refusesAny_479 : decode cL_refusesAny 479 = .ok (.iload_n 3, 1) := by decide +kernel
