theorem dX7_most_0 : decode cX7_most 0 = .ok (.aload_n 0, 1) := by decide +kernel
theorem dX7_most_1 : decode cX7_most 1 = .ok (.getfield 47, 3) := by decide +kernel
theorem dX7_most_4 : decode cX7_most 4 = .ok (.aload_n 0, 1) := by decide +kernel
theorem dX7_most_5 : decode cX7_most 5 = .ok (.getfield 10, 3) := by decide +kernel
theorem dX7_most_8 : decode cX7_most 8 = .ok (.invokevirtual 238, 3) := by decide +kernel
theorem dX7_most_11 : decode cX7_most 11 = .ok (.ireturn, 1) := by decide +kernel
set_option maxRecDepth 20000 in
theorem ggX7_count_X6_countHeld : GoodIn wsX7_count wsX6_countHeld := goodIn_r _ [16, 17, 18, 19, 112, 113, 114, 115, 116, 117, 118, 119, 129, 130, 131, 132, 133, 134, 135, 136, 137] (by decide +kernel) (by decide +kernel)
set_option maxRecDepth 20000 in
theorem gX7_count_X6_countHeld : GoodIn wsX7_count (wsV RX7 199 RX6 yX6_countHeld wsX6_countHeld) := goodIn_app (goodIn_of _ (by decide +kernel)) ggX7_count_X6_countHeld
set_option maxRecDepth 20000 in
theorem ggX7_count_X6_countNumbered : GoodIn wsX7_count wsX6_countNumbered := goodIn_r _ [23, 17, 18, 24, 112, 113, 114, 115, 116, 117, 118, 119, 129, 130, 131, 132, 133, 134, 135, 136, 137] (by decide +kernel) (by decide +kernel)
set_option maxRecDepth 20000 in
theorem gX7_count_X6_countNumbered : GoodIn wsX7_count (wsV RX7 139 RX6 yX6_countNumbered wsX6_countNumbered) := goodIn_app (goodIn_of _ (by decide +kernel)) ggX7_count_X6_countNumbered
set_option maxRecDepth 20000 in
theorem ggX7_count_X6_countEnvy : GoodIn wsX7_count wsX6_countEnvy := goodIn_r _ [28, 17, 18, 29, 30, 31, 15, 32, 19, 33, 34, 35, 36, 37, 38, 39, 40, 41, 42, 43, 44, 45, 46, 47, 48, 49, 50, 51, 52, 53, 54, 55, 56, 57, 58, 59, 60, 61, 62, 63, 64, 65, 66, 67, 68, 112, 113, 114, 115, 116, 117, 118, 119, 129, 130, 131, 132, 133, 134, 135, 136, 137, 138, 139] (by decide +kernel) (by decide +kernel)
set_option maxRecDepth 20000 in
theorem gX7_count_X6_countEnvy : GoodIn wsX7_count (wsV RX7 241 RX6 yX6_countEnvy wsX6_countEnvy) := goodIn_app (goodIn_of _ (by decide +kernel)) ggX7_count_X6_countEnvy
set_option maxRecDepth 20000 in
theorem ggX7_count_X5_lookAt : GoodIn wsX7_count wsX5_lookAt := goodIn_r _ [73, 74, 75, 76, 77, 78, 79, 80, 15, 81, 19, 82, 83, 33, 34, 35, 36, 37, 38, 39, 40, 41, 42, 43, 44, 84, 85, 86, 87, 17, 18, 45, 46, 47, 48, 49, 50, 51, 52, 53, 54, 55, 56, 57, 58, 59, 60, 61, 62, 112, 113, 114, 115, 116, 117, 118, 119, 140, 141, 129, 130, 131, 132, 133, 134, 135, 136, 137, 138, 139] (by decide +kernel) (by decide +kernel)
set_option maxRecDepth 20000 in
theorem gX7_count_X5_lookAt : GoodIn wsX7_count (wsV RX7 173 RX5 yX5_lookAt wsX5_lookAt) := goodIn_app (goodIn_of _ (by decide +kernel)) ggX7_count_X5_lookAt
set_option maxRecDepth 20000 in
theorem ggX7_count_X5_countHouseholds : GoodIn wsX7_count wsX5_countHouseholds := goodIn_r _ [91, 75, 92, 93, 94, 72, 95, 96, 97, 98, 99, 76, 140, 141] (by decide +kernel) (by decide +kernel)
set_option maxRecDepth 20000 in
theorem gX7_count_X5_countHouseholds : GoodIn wsX7_count (wsV RX7 244 RX5 yX5_countHouseholds wsX5_countHouseholds) := goodIn_app (goodIn_of _ (by decide +kernel)) ggX7_count_X5_countHouseholds
set_option maxRecDepth 20000 in
theorem ggX7_count_X6_countAppeals : GoodIn wsX7_count wsX6_countAppeals := goodIn_r _ [103, 17, 18, 104, 112, 113, 114, 115, 116, 117, 118, 119, 129, 130, 131, 132, 133, 134, 135, 136, 137] (by decide +kernel) (by decide +kernel)
set_option maxRecDepth 20000 in
theorem gX7_count_X6_countAppeals : GoodIn wsX7_count (wsV RX7 247 RX6 yX6_countAppeals wsX6_countAppeals) := goodIn_app (goodIn_of _ (by decide +kernel)) ggX7_count_X6_countAppeals
theorem dX7_count_0 : decode cX7_count 0 = .ok (.iload_n 1, 1) := by decide +kernel
theorem dX7_count_1 : decode cX7_count 1 = .ok (.tableswitch 184 0 12 #[67, 75, 83, 91, 99, 107, 116, 125, 144, 152, 160, 168, 176], 67) := by decide +kernel
theorem dX7_count_68 : decode cX7_count 68 = .ok (.aload_n 0, 1) := by decide +kernel
theorem dX7_count_69 : decode cX7_count 69 = .ok (.getfield 10, 3) := by decide +kernel
theorem dX7_count_72 : decode cX7_count 72 = .ok (.getfield 55, 3) := by decide +kernel
theorem dX7_count_75 : decode cX7_count 75 = .ok (.ireturn, 1) := by decide +kernel
theorem dX7_count_76 : decode cX7_count 76 = .ok (.aload_n 0, 1) := by decide +kernel
theorem dX7_count_77 : decode cX7_count 77 = .ok (.getfield 10, 3) := by decide +kernel
theorem dX7_count_80 : decode cX7_count 80 = .ok (.getfield 75, 3) := by decide +kernel
theorem dX7_count_83 : decode cX7_count 83 = .ok (.ireturn, 1) := by decide +kernel
theorem dX7_count_84 : decode cX7_count 84 = .ok (.aload_n 0, 1) := by decide +kernel
theorem dX7_count_85 : decode cX7_count 85 = .ok (.getfield 10, 3) := by decide +kernel
theorem dX7_count_88 : decode cX7_count 88 = .ok (.invokevirtual 199, 3) := by decide +kernel
theorem dX7_count_91 : decode cX7_count 91 = .ok (.ireturn, 1) := by decide +kernel
theorem dX7_count_92 : decode cX7_count 92 = .ok (.aload_n 0, 1) := by decide +kernel
theorem dX7_count_93 : decode cX7_count 93 = .ok (.getfield 10, 3) := by decide +kernel
theorem dX7_count_96 : decode cX7_count 96 = .ok (.getfield 142, 3) := by decide +kernel
theorem dX7_count_99 : decode cX7_count 99 = .ok (.ireturn, 1) := by decide +kernel
theorem dX7_count_100 : decode cX7_count 100 = .ok (.aload_n 0, 1) := by decide +kernel
theorem dX7_count_101 : decode cX7_count 101 = .ok (.getfield 10, 3) := by decide +kernel
theorem dX7_count_104 : decode cX7_count 104 = .ok (.invokevirtual 139, 3) := by decide +kernel
theorem dX7_count_107 : decode cX7_count 107 = .ok (.ireturn, 1) := by decide +kernel
theorem dX7_count_108 : decode cX7_count 108 = .ok (.aload_n 0, 1) := by decide +kernel
theorem dX7_count_109 : decode cX7_count 109 = .ok (.getfield 10, 3) := by decide +kernel
theorem dX7_count_112 : decode cX7_count 112 = .ok (.iconst 1, 1) := by decide +kernel
theorem dX7_count_113 : decode cX7_count 113 = .ok (.invokevirtual 241, 3) := by decide +kernel
theorem dX7_count_116 : decode cX7_count 116 = .ok (.ireturn, 1) := by decide +kernel
theorem dX7_count_117 : decode cX7_count 117 = .ok (.aload_n 0, 1) := by decide +kernel
theorem dX7_count_118 : decode cX7_count 118 = .ok (.getfield 10, 3) := by decide +kernel
theorem dX7_count_121 : decode cX7_count 121 = .ok (.iconst 2, 1) := by decide +kernel
theorem dX7_count_122 : decode cX7_count 122 = .ok (.invokevirtual 241, 3) := by decide +kernel
theorem dX7_count_125 : decode cX7_count 125 = .ok (.ireturn, 1) := by decide +kernel
theorem dX7_count_126 : decode cX7_count 126 = .ok (.aload_n 0, 1) := by decide +kernel
theorem dX7_count_127 : decode cX7_count 127 = .ok (.getfield 40, 3) := by decide +kernel
theorem dX7_count_130 : decode cX7_count 130 = .ok (.aload_n 0, 1) := by decide +kernel
theorem dX7_count_131 : decode cX7_count 131 = .ok (.getfield 10, 3) := by decide +kernel
theorem dX7_count_134 : decode cX7_count 134 = .ok (.invokevirtual 173, 3) := by decide +kernel
theorem dX7_count_137 : decode cX7_count 137 = .ok (.aload_n 0, 1) := by decide +kernel
theorem dX7_count_138 : decode cX7_count 138 = .ok (.getfield 40, 3) := by decide +kernel
theorem dX7_count_141 : decode cX7_count 141 = .ok (.invokevirtual 244, 3) := by decide +kernel
theorem dX7_count_144 : decode cX7_count 144 = .ok (.ireturn, 1) := by decide +kernel
theorem dX7_count_145 : decode cX7_count 145 = .ok (.aload_n 0, 1) := by decide +kernel
theorem dX7_count_146 : decode cX7_count 146 = .ok (.getfield 10, 3) := by decide +kernel
theorem dX7_count_149 : decode cX7_count 149 = .ok (.invokevirtual 247, 3) := by decide +kernel
theorem dX7_count_152 : decode cX7_count 152 = .ok (.ireturn, 1) := by decide +kernel
theorem dX7_count_153 : decode cX7_count 153 = .ok (.aload_n 0, 1) := by decide +kernel
theorem dX7_count_154 : decode cX7_count 154 = .ok (.getfield 10, 3) := by decide +kernel
theorem dX7_count_157 : decode cX7_count 157 = .ok (.getfield 170, 3) := by decide +kernel
theorem dX7_count_160 : decode cX7_count 160 = .ok (.ireturn, 1) := by decide +kernel
theorem dX7_count_161 : decode cX7_count 161 = .ok (.aload_n 0, 1) := by decide +kernel
theorem dX7_count_162 : decode cX7_count 162 = .ok (.getfield 10, 3) := by decide +kernel
theorem dX7_count_165 : decode cX7_count 165 = .ok (.getfield 160, 3) := by decide +kernel
theorem dX7_count_168 : decode cX7_count 168 = .ok (.ireturn, 1) := by decide +kernel
theorem dX7_count_169 : decode cX7_count 169 = .ok (.aload_n 0, 1) := by decide +kernel
theorem dX7_count_170 : decode cX7_count 170 = .ok (.getfield 26, 3) := by decide +kernel
theorem dX7_count_173 : decode cX7_count 173 = .ok (.getfield 190, 3) := by decide +kernel
theorem dX7_count_176 : decode cX7_count 176 = .ok (.ireturn, 1) := by decide +kernel
theorem dX7_count_177 : decode cX7_count 177 = .ok (.aload_n 0, 1) := by decide +kernel
theorem dX7_count_178 : decode cX7_count 178 = .ok (.getfield 33, 3) := by decide +kernel
theorem dX7_count_181 : decode cX7_count 181 = .ok (.getfield 187, 3) := by decide +kernel
theorem dX7_count_184 : decode cX7_count 184 = .ok (.ireturn, 1) := by decide +kernel
theorem dX7_count_185 : decode cX7_count 185 = .ok (.bipush (-2), 2) := by decide +kernel
theorem dX7_count_187 : decode cX7_count 187 = .ok (.ireturn, 1) := by decide +kernel
theorem dX7_isWithin_0 : decode cX7_isWithin 0 = .ok (.iload_n 0, 1) := by decide +kernel
theorem dX7_isWithin_1 : decode cX7_isWithin 1 = .ok (.iload_n 1, 1) := by decide +kernel
theorem dX7_isWithin_2 : decode cX7_isWithin 2 = .ok (.if_icmp .lt 12, 3) := by decide +kernel
theorem dX7_isWithin_5 : decode cX7_isWithin 5 = .ok (.iload_n 0, 1) := by decide +kernel
theorem dX7_isWithin_6 : decode cX7_isWithin 6 = .ok (.iload_n 2, 1) := by decide +kernel
theorem dX7_isWithin_7 : decode cX7_isWithin 7 = .ok (.if_icmp .gt 7, 3) := by decide +kernel
theorem dX7_isWithin_10 : decode cX7_isWithin 10 = .ok (.iconst 1, 1) := by decide +kernel
theorem dX7_isWithin_11 : decode cX7_isWithin 11 = .ok (.goto 4, 3) := by decide +kernel
theorem dX7_isWithin_14 : decode cX7_isWithin 14 = .ok (.iconst 0, 1) := by decide +kernel
theorem dX7_isWithin_15 : decode cX7_isWithin 15 = .ok (.ireturn, 1) := by decide +kernel
theorem dX8_init_0 : decode cX8_init 0 = .ok (.aload_n 0, 1) := by decide +kernel
theorem dX8_init_1 : decode cX8_init 1 = .ok (.invokespecial 1, 3) := by decide +kernel
theorem dX8_init_4 : decode cX8_init 4 = .ok (.aload_n 0, 1) := by decide +kernel
theorem dX8_init_5 : decode cX8_init 5 = .ok (.sipush 198, 3) := by decide +kernel
theorem dX8_init_8 : decode cX8_init 8 = .ok (.newarray .int, 2) := by decide +kernel
theorem dX8_init_10 : decode cX8_init 10 = .ok (.putfield 7, 3) := by decide +kernel
theorem dX8_init_13 : decode cX8_init 13 = .ok (.aload_n 0, 1) := by decide +kernel
theorem dX8_init_14 : decode cX8_init 14 = .ok (.sipush 792, 3) := by decide +kernel
theorem dX8_init_17 : decode cX8_init 17 = .ok (.newarray .int, 2) := by decide +kernel
theorem dX8_init_19 : decode cX8_init 19 = .ok (.putfield 13, 3) := by decide +kernel
theorem dX8_init_22 : decode cX8_init 22 = .ok (.aload_n 0, 1) := by decide +kernel
theorem dX8_init_23 : decode cX8_init 23 = .ok (.sipush 198, 3) := by decide +kernel
theorem dX8_init_26 : decode cX8_init 26 = .ok (.newarray .int, 2) := by decide +kernel
theorem dX8_init_28 : decode cX8_init 28 = .ok (.putfield 16, 3) := by decide +kernel
theorem dX8_init_31 : decode cX8_init 31 = .ok (.aload_n 0, 1) := by decide +kernel
theorem dX8_init_32 : decode cX8_init 32 = .ok (.bipush 60, 2) := by decide +kernel
theorem dX8_init_34 : decode cX8_init 34 = .ok (.newarray .char, 2) := by decide +kernel
theorem dX8_init_36 : decode cX8_init 36 = .ok (.putfield 19, 3) := by decide +kernel
theorem dX8_init_39 : decode cX8_init 39 = .ok (.aload_n 0, 1) := by decide +kernel
theorem dX8_init_40 : decode cX8_init 40 = .ok (.bipush 13, 2) := by decide +kernel
theorem dX8_init_42 : decode cX8_init 42 = .ok (.newarray .int, 2) := by decide +kernel
theorem dX8_init_44 : decode cX8_init 44 = .ok (.putfield 23, 3) := by decide +kernel
theorem dX8_init_47 : decode cX8_init 47 = .ok (.aload_n 0, 1) := by decide +kernel
theorem dX8_init_48 : decode cX8_init 48 = .ok (.bipush 13, 2) := by decide +kernel
theorem dX8_init_50 : decode cX8_init 50 = .ok (.newarray .int, 2) := by decide +kernel
theorem dX8_init_52 : decode cX8_init 52 = .ok (.putfield 26, 3) := by decide +kernel
theorem dX8_init_55 : decode cX8_init 55 = .ok (.aload_n 0, 1) := by decide +kernel
theorem dX8_init_56 : decode cX8_init 56 = .ok (.sipush 136, 3) := by decide +kernel
theorem dX8_init_59 : decode cX8_init 59 = .ok (.newarray .int, 2) := by decide +kernel
theorem dX8_init_61 : decode cX8_init 61 = .ok (.putfield 29, 3) := by decide +kernel
theorem dX8_init_64 : decode cX8_init 64 = .ok (.aload_n 0, 1) := by decide +kernel
theorem dX8_init_65 : decode cX8_init 65 = .ok (.sipush 4096, 3) := by decide +kernel
theorem dX8_init_68 : decode cX8_init 68 = .ok (.newarray .boolean, 2) := by decide +kernel
theorem dX8_init_70 : decode cX8_init 70 = .ok (.putfield 32, 3) := by decide +kernel
theorem dX8_init_73 : decode cX8_init 73 = .ok (.aload_n 0, 1) := by decide +kernel
theorem dX8_init_74 : decode cX8_init 74 = .ok (.iconst 0, 1) := by decide +kernel
theorem dX8_init_75 : decode cX8_init 75 = .ok (.putfield 36, 3) := by decide +kernel
theorem dX8_init_78 : decode cX8_init 78 = .ok (.return_, 1) := by decide +kernel
theorem dX8_in_0 : decode cX8_in 0 = .ok (.iload_n 0, 1) := by decide +kernel
theorem dX8_in_1 : decode cX8_in 1 = .ok (.iload_n 1, 1) := by decide +kernel
theorem dX8_in_2 : decode cX8_in 2 = .ok (.if_icmp .lt 12, 3) := by decide +kernel
theorem dX8_in_5 : decode cX8_in 5 = .ok (.iload_n 0, 1) := by decide +kernel
theorem dX8_in_6 : decode cX8_in 6 = .ok (.iload_n 2, 1) := by decide +kernel
theorem dX8_in_7 : decode cX8_in 7 = .ok (.if_icmp .gt 7, 3) := by decide +kernel
theorem dX8_in_10 : decode cX8_in 10 = .ok (.iconst 1, 1) := by decide +kernel
theorem dX8_in_11 : decode cX8_in 11 = .ok (.goto 4, 3) := by decide +kernel
theorem dX8_in_14 : decode cX8_in 14 = .ok (.iconst 0, 1) := by decide +kernel
theorem dX8_in_15 : decode cX8_in 15 = .ok (.ireturn, 1) := by decide +kernel
theorem dX8_lays_0 : decode cX8_lays 0 = .ok (.iconst 0, 1) := by decide +kernel
theorem dX8_lays_1 : decode cX8_lays 1 = .ok (.istore 4, 2) := by decide +kernel
theorem dX8_lays_3 : decode cX8_lays 3 = .ok (.iload 4, 2) := by decide +kernel
theorem dX8_lays_5 : decode cX8_lays 5 = .ok (.sipush 198, 3) := by decide +kernel
theorem dX8_lays_8 : decode cX8_lays 8 = .ok (.if_icmp .ge 21, 3) := by decide +kernel
theorem dX8_lays_11 : decode cX8_lays 11 = .ok (.aload_n 2, 1) := by decide +kernel
theorem dX8_lays_12 : decode cX8_lays 12 = .ok (.iload_n 3, 1) := by decide +kernel
theorem dX8_lays_13 : decode cX8_lays 13 = .ok (.iload 4, 2) := by decide +kernel
theorem dX8_lays_15 : decode cX8_lays 15 = .ok (.iadd, 1) := by decide +kernel
theorem dX8_lays_16 : decode cX8_lays 16 = .ok (.aload_n 0, 1) := by decide +kernel
theorem dX8_lays_17 : decode cX8_lays 17 = .ok (.iload_n 1, 1) := by decide +kernel
theorem dX8_lays_18 : decode cX8_lays 18 = .ok (.iload 4, 2) := by decide +kernel
theorem dX8_lays_20 : decode cX8_lays 20 = .ok (.iadd, 1) := by decide +kernel
theorem dX8_lays_21 : decode cX8_lays 21 = .ok (.iaload, 1) := by decide +kernel
theorem dX8_lays_22 : decode cX8_lays 22 = .ok (.iastore, 1) := by decide +kernel
theorem dX8_lays_23 : decode cX8_lays 23 = .ok (.iinc 4 1, 3) := by decide +kernel
theorem dX8_lays_26 : decode cX8_lays 26 = .ok (.goto (-23), 3) := by decide +kernel
theorem dX8_lays_29 : decode cX8_lays 29 = .ok (.return_, 1) := by decide +kernel
set_option maxRecDepth 20000 in
theorem ggX8_records_X8_lays : GoodIn wsX8_records wsX8_lays := goodIn_r _ [7] (by decide +kernel) (by decide +kernel)
set_option maxRecDepth 20000 in
theorem gX8_records_X8_lays : GoodIn wsX8_records (va_wsS RX8 40 yX8_lays wsX8_lays) := goodIn_app (goodIn_of _ (by decide +kernel)) ggX8_records_X8_lays
theorem dX8_records_0 : decode cX8_records 0 = .ok (.aload_n 0, 1) := by decide +kernel
theorem dX8_records_1 : decode cX8_records 1 = .ok (.getfield 36, 3) := by decide +kernel
theorem dX8_records_4 : decode cX8_records 4 = .ok (.iconst 4, 1) := by decide +kernel
theorem dX8_records_5 : decode cX8_records 5 = .ok (.if_icmp .ne 44, 3) := by decide +kernel
theorem dX8_records_8 : decode cX8_records 8 = .ok (.iconst 0, 1) := by decide +kernel
theorem dX8_records_9 : decode cX8_records 9 = .ok (.istore_n 1, 1) := by decide +kernel
theorem dX8_records_10 : decode cX8_records 10 = .ok (.iload_n 1, 1) := by decide +kernel
theorem dX8_records_11 : decode cX8_records 11 = .ok (.sipush 594, 3) := by decide +kernel
theorem dX8_records_14 : decode cX8_records 14 = .ok (.if_icmp .ge 25, 3) := by decide +kernel
theorem dX8_records_17 : decode cX8_records 17 = .ok (.aload_n 0, 1) := by decide +kernel
theorem dX8_records_18 : decode cX8_records 18 = .ok (.getfield 13, 3) := by decide +kernel
theorem dX8_records_21 : decode cX8_records 21 = .ok (.iload_n 1, 1) := by decide +kernel
theorem dX8_records_22 : decode cX8_records 22 = .ok (.aload_n 0, 1) := by decide +kernel
theorem dX8_records_23 : decode cX8_records 23 = .ok (.getfield 13, 3) := by decide +kernel
theorem dX8_records_26 : decode cX8_records 26 = .ok (.iload_n 1, 1) := by decide +kernel
theorem dX8_records_27 : decode cX8_records 27 = .ok (.sipush 198, 3) := by decide +kernel
theorem dX8_records_30 : decode cX8_records 30 = .ok (.iadd, 1) := by decide +kernel
theorem dX8_records_31 : decode cX8_records 31 = .ok (.iaload, 1) := by decide +kernel
theorem dX8_records_32 : decode cX8_records 32 = .ok (.iastore, 1) := by decide +kernel
theorem dX8_records_33 : decode cX8_records 33 = .ok (.iinc 1 1, 3) := by decide +kernel
theorem dX8_records_36 : decode cX8_records 36 = .ok (.goto (-26), 3) := by decide +kernel
theorem dX8_records_39 : decode cX8_records 39 = .ok (.aload_n 0, 1) := by decide +kernel
theorem dX8_records_40 : decode cX8_records 40 = .ok (.dup, 1) := by decide +kernel
theorem dX8_records_41 : decode cX8_records 41 = .ok (.getfield 36, 3) := by decide +kernel
theorem dX8_records_44 : decode cX8_records 44 = .ok (.iconst 1, 1) := by decide +kernel
theorem dX8_records_45 : decode cX8_records 45 = .ok (.isub, 1) := by decide +kernel
theorem dX8_records_46 : decode cX8_records 46 = .ok (.putfield 36, 3) := by decide +kernel
theorem dX8_records_49 : decode cX8_records 49 = .ok (.aload_n 0, 1) := by decide +kernel
theorem dX8_records_50 : decode cX8_records 50 = .ok (.getfield 7, 3) := by decide +kernel
theorem dX8_records_53 : decode cX8_records 53 = .ok (.iconst 0, 1) := by decide +kernel
theorem dX8_records_54 : decode cX8_records 54 = .ok (.aload_n 0, 1) := by decide +kernel
theorem dX8_records_55 : decode cX8_records 55 = .ok (.getfield 13, 3) := by decide +kernel
theorem dX8_records_58 : decode cX8_records 58 = .ok (.sipush 198, 3) := by decide +kernel
theorem dX8_records_61 : decode cX8_records 61 = .ok (.aload_n 0, 1) := by decide +kernel
theorem dX8_records_62 : decode cX8_records 62 = .ok (.getfield 36, 3) := by decide +kernel
theorem dX8_records_65 : decode cX8_records 65 = .ok (.imul, 1) := by decide +kernel
theorem dX8_records_66 : decode cX8_records 66 = .ok (.invokestatic 40, 3) := by decide +kernel
theorem dX8_records_69 : decode cX8_records 69 = .ok (.aload_n 0, 1) := by decide +kernel
theorem dX8_records_70 : decode cX8_records 70 = .ok (.dup, 1) := by decide +kernel
theorem dX8_records_71 : decode cX8_records 71 = .ok (.getfield 36, 3) := by decide +kernel
theorem dX8_records_74 : decode cX8_records 74 = .ok (.iconst 1, 1) := by decide +kernel
theorem dX8_records_75 : decode cX8_records 75 = .ok (.iadd, 1) := by decide +kernel
theorem dX8_records_76 : decode cX8_records 76 = .ok (.putfield 36, 3) := by decide +kernel
theorem dX8_records_79 : decode cX8_records 79 = .ok (.return_, 1) := by decide +kernel
set_option maxRecDepth 20000 in
theorem ggX8_undo_X8_lays : GoodIn wsX8_undo wsX8_lays := goodIn_r _ [7] (by decide +kernel) (by decide +kernel)
set_option maxRecDepth 20000 in
theorem gX8_undo_X8_lays : GoodIn wsX8_undo (va_wsS RX8 40 yX8_lays wsX8_lays) := goodIn_app (goodIn_of _ (by decide +kernel)) ggX8_undo_X8_lays
theorem dX8_undo_0 : decode cX8_undo 0 = .ok (.aload_n 0, 1) := by decide +kernel
theorem dX8_undo_1 : decode cX8_undo 1 = .ok (.getfield 36, 3) := by decide +kernel
theorem dX8_undo_4 : decode cX8_undo 4 = .ok (.ifCond .ne 6, 3) := by decide +kernel
theorem dX8_undo_7 : decode cX8_undo 7 = .ok (.bipush (-5), 2) := by decide +kernel
theorem dX8_undo_9 : decode cX8_undo 9 = .ok (.ireturn, 1) := by decide +kernel
theorem dX8_undo_10 : decode cX8_undo 10 = .ok (.aload_n 0, 1) := by decide +kernel
theorem dX8_undo_11 : decode cX8_undo 11 = .ok (.dup, 1) := by decide +kernel
theorem dX8_undo_12 : decode cX8_undo 12 = .ok (.getfield 36, 3) := by decide +kernel
theorem dX8_undo_15 : decode cX8_undo 15 = .ok (.iconst 1, 1) := by decide +kernel
theorem dX8_undo_16 : decode cX8_undo 16 = .ok (.isub, 1) := by decide +kernel
theorem dX8_undo_17 : decode cX8_undo 17 = .ok (.putfield 36, 3) := by decide +kernel
theorem dX8_undo_20 : decode cX8_undo 20 = .ok (.aload_n 0, 1) := by decide +kernel
theorem dX8_undo_21 : decode cX8_undo 21 = .ok (.getfield 13, 3) := by decide +kernel
theorem dX8_undo_24 : decode cX8_undo 24 = .ok (.sipush 198, 3) := by decide +kernel
theorem dX8_undo_27 : decode cX8_undo 27 = .ok (.aload_n 0, 1) := by decide +kernel
theorem dX8_undo_28 : decode cX8_undo 28 = .ok (.getfield 36, 3) := by decide +kernel
theorem dX8_undo_31 : decode cX8_undo 31 = .ok (.imul, 1) := by decide +kernel
theorem dX8_undo_32 : decode cX8_undo 32 = .ok (.aload_n 0, 1) := by decide +kernel
theorem dX8_undo_33 : decode cX8_undo 33 = .ok (.getfield 7, 3) := by decide +kernel
theorem dX8_undo_36 : decode cX8_undo 36 = .ok (.iconst 0, 1) := by decide +kernel
theorem dX8_undo_37 : decode cX8_undo 37 = .ok (.invokestatic 40, 3) := by decide +kernel
theorem dX8_undo_40 : decode cX8_undo 40 = .ok (.aload_n 0, 1) := by decide +kernel
theorem dX8_undo_41 : decode cX8_undo 41 = .ok (.getfield 36, 3) := by decide +kernel
theorem dX8_undo_44 : decode cX8_undo 44 = .ok (.ireturn, 1) := by decide +kernel
set_option maxRecDepth 20000 in
theorem ggX8_keep_X8_lays : GoodIn wsX8_keep wsX8_lays := goodIn_r _ [7] (by decide +kernel) (by decide +kernel)
set_option maxRecDepth 20000 in
theorem gX8_keep_X8_lays : GoodIn wsX8_keep (va_wsS RX8 40 yX8_lays wsX8_lays) := goodIn_app (goodIn_of _ (by decide +kernel)) ggX8_keep_X8_lays
set_option maxRecDepth 20000 in
theorem ggX8_keep_X8_held : GoodIn wsX8_keep wsX8_held := goodIn_r _ [11, 1, 12, 13, 14, 6, 15, 16, 17, 18, 19, 20, 21, 22, 23, 24, 25, 26, 27, 28] (by decide +kernel) (by decide +kernel)
set_option maxRecDepth 20000 in
theorem gX8_keep_X8_held : GoodIn wsX8_keep (wsV RX8 48 RX8 yX8_held wsX8_held) := goodIn_app (goodIn_of _ (by decide +kernel)) ggX8_keep_X8_held
theorem dX8_keep_0 : decode cX8_keep 0 = .ok (.aload_n 0, 1) := by decide +kernel
theorem dX8_keep_1 : decode cX8_keep 1 = .ok (.getfield 7, 3) := by decide +kernel
theorem dX8_keep_4 : decode cX8_keep 4 = .ok (.iconst 0, 1) := by decide +kernel
theorem dX8_keep_5 : decode cX8_keep 5 = .ok (.aload_n 0, 1) := by decide +kernel
theorem dX8_keep_6 : decode cX8_keep 6 = .ok (.getfield 16, 3) := by decide +kernel
theorem dX8_keep_9 : decode cX8_keep 9 = .ok (.iconst 0, 1) := by decide +kernel
theorem dX8_keep_10 : decode cX8_keep 10 = .ok (.invokestatic 40, 3) := by decide +kernel
theorem dX8_keep_13 : decode cX8_keep 13 = .ok (.aload_n 0, 1) := by decide +kernel
theorem dX8_keep_14 : decode cX8_keep 14 = .ok (.iconst 1, 1) := by decide +kernel
theorem dX8_keep_15 : decode cX8_keep 15 = .ok (.putfield 44, 3) := by decide +kernel
theorem dX8_keep_18 : decode cX8_keep 18 = .ok (.aload_n 0, 1) := by decide +kernel
theorem dX8_keep_19 : decode cX8_keep 19 = .ok (.invokevirtual 48, 3) := by decide +kernel
theorem dX8_keep_22 : decode cX8_keep 22 = .ok (.ireturn, 1) := by decide +kernel
set_option maxRecDepth 20000 in
theorem ggX8_restore_X8_records : GoodIn wsX8_restore wsX8_records := goodIn_r _ [8, 9, 10, 3, 11, 12, 7, 13, 22, 23, 24, 25, 26, 27, 28, 29, 30, 31, 32, 33, 34] (by decide +kernel) (by decide +kernel)
set_option maxRecDepth 20000 in
theorem gX8_restore_X8_records : GoodIn wsX8_restore (wsV RX8 52 RX8 yX8_records wsX8_records) := goodIn_app (goodIn_of _ (by decide +kernel)) ggX8_restore_X8_records
set_option maxRecDepth 20000 in
theorem ggX8_restore_X8_lays : GoodIn wsX8_restore wsX8_lays := goodIn_r _ [13] (by decide +kernel) (by decide +kernel)
set_option maxRecDepth 20000 in
theorem gX8_restore_X8_lays : GoodIn wsX8_restore (va_wsS RX8 40 yX8_lays wsX8_lays) := goodIn_app (goodIn_of _ (by decide +kernel)) ggX8_restore_X8_lays
set_option maxRecDepth 20000 in
theorem ggX8_restore_X8_held : GoodIn wsX8_restore wsX8_held := goodIn_r _ [17, 3, 18, 19, 20, 7, 21, 22, 23, 24, 25, 26, 27, 28, 29, 30, 31, 32, 33, 34] (by decide +kernel) (by decide +kernel)
set_option maxRecDepth 20000 in
theorem gX8_restore_X8_held : GoodIn wsX8_restore (wsV RX8 48 RX8 yX8_held wsX8_held) := goodIn_app (goodIn_of _ (by decide +kernel)) ggX8_restore_X8_held
theorem dX8_restore_0 : decode cX8_restore 0 = .ok (.aload_n 0, 1) := by decide +kernel
theorem dX8_restore_1 : decode cX8_restore 1 = .ok (.getfield 44, 3) := by decide +kernel
theorem dX8_restore_4 : decode cX8_restore 4 = .ok (.ifCond .ne 6, 3) := by decide +kernel
theorem dX8_restore_7 : decode cX8_restore 7 = .ok (.bipush (-5), 2) := by decide +kernel
theorem dX8_restore_9 : decode cX8_restore 9 = .ok (.ireturn, 1) := by decide +kernel
theorem dX8_restore_10 : decode cX8_restore 10 = .ok (.aload_n 0, 1) := by decide +kernel
theorem dX8_restore_11 : decode cX8_restore 11 = .ok (.invokevirtual 52, 3) := by decide +kernel
theorem dX8_restore_14 : decode cX8_restore 14 = .ok (.aload_n 0, 1) := by decide +kernel
theorem dX8_restore_15 : decode cX8_restore 15 = .ok (.getfield 16, 3) := by decide +kernel
theorem dX8_restore_18 : decode cX8_restore 18 = .ok (.iconst 0, 1) := by decide +kernel
theorem dX8_restore_19 : decode cX8_restore 19 = .ok (.aload_n 0, 1) := by decide +kernel
theorem dX8_restore_20 : decode cX8_restore 20 = .ok (.getfield 7, 3) := by decide +kernel
theorem dX8_restore_23 : decode cX8_restore 23 = .ok (.iconst 0, 1) := by decide +kernel
theorem dX8_restore_24 : decode cX8_restore 24 = .ok (.invokestatic 40, 3) := by decide +kernel
theorem dX8_restore_27 : decode cX8_restore 27 = .ok (.aload_n 0, 1) := by decide +kernel
theorem dX8_restore_28 : decode cX8_restore 28 = .ok (.invokevirtual 48, 3) := by decide +kernel
theorem dX8_restore_31 : decode cX8_restore 31 = .ok (.ireturn, 1) := by decide +kernel
set_option maxRecDepth 20000 in
theorem ggX8_isFlat_X8_in : GoodIn wsX8_isFlat wsX8_in := goodIn_r _ [5] (by decide +kernel) (by decide +kernel)
set_option maxRecDepth 20000 in
theorem gX8_isFlat_X8_in : GoodIn wsX8_isFlat (va_wsS RX8 55 yX8_in wsX8_in) := goodIn_app (goodIn_of _ (by decide +kernel)) ggX8_isFlat_X8_in
theorem dX8_isFlat_0 : decode cX8_isFlat 0 = .ok (.iload_n 1, 1) := by decide +kernel
theorem dX8_isFlat_1 : decode cX8_isFlat 1 = .ok (.iconst 0, 1) := by decide +kernel
theorem dX8_isFlat_2 : decode cX8_isFlat 2 = .ok (.aload_n 0, 1) := by decide +kernel
theorem dX8_isFlat_3 : decode cX8_isFlat 3 = .ok (.getfield 7, 3) := by decide +kernel
theorem dX8_isFlat_6 : decode cX8_isFlat 6 = .ok (.iconst 0, 1) := by decide +kernel
theorem dX8_isFlat_7 : decode cX8_isFlat 7 = .ok (.iaload, 1) := by decide +kernel
theorem dX8_isFlat_8 : decode cX8_isFlat 8 = .ok (.iconst 1, 1) := by decide +kernel
theorem dX8_isFlat_9 : decode cX8_isFlat 9 = .ok (.isub, 1) := by decide +kernel
theorem dX8_isFlat_10 : decode cX8_isFlat 10 = .ok (.invokestatic 55, 3) := by decide +kernel
theorem dX8_isFlat_13 : decode cX8_isFlat 13 = .ok (.ireturn, 1) := by decide +kernel
set_option maxRecDepth 20000 in
theorem ggX8_isHome_X8_in : GoodIn wsX8_isHome wsX8_in := goodIn_r _ [5] (by decide +kernel) (by decide +kernel)
set_option maxRecDepth 20000 in
theorem gX8_isHome_X8_in : GoodIn wsX8_isHome (va_wsS RX8 55 yX8_in wsX8_in) := goodIn_app (goodIn_of _ (by decide +kernel)) ggX8_isHome_X8_in
theorem dX8_isHome_0 : decode cX8_isHome 0 = .ok (.iload_n 1, 1) := by decide +kernel
theorem dX8_isHome_1 : decode cX8_isHome 1 = .ok (.iconst 0, 1) := by decide +kernel
theorem dX8_isHome_2 : decode cX8_isHome 2 = .ok (.aload_n 0, 1) := by decide +kernel
theorem dX8_isHome_3 : decode cX8_isHome 3 = .ok (.getfield 7, 3) := by decide +kernel
theorem dX8_isHome_6 : decode cX8_isHome 6 = .ok (.iconst 1, 1) := by decide +kernel
theorem dX8_isHome_7 : decode cX8_isHome 7 = .ok (.iaload, 1) := by decide +kernel
theorem dX8_isHome_8 : decode cX8_isHome 8 = .ok (.iconst 1, 1) := by decide +kernel
theorem dX8_isHome_9 : decode cX8_isHome 9 = .ok (.isub, 1) := by decide +kernel
theorem dX8_isHome_10 : decode cX8_isHome 10 = .ok (.invokestatic 55, 3) := by decide +kernel
theorem dX8_isHome_13 : decode cX8_isHome 13 = .ok (.ireturn, 1) := by decide +kernel
theorem dX8_of_0 : decode cX8_of 0 = .ok (.aload_n 0, 1) := by decide +kernel
theorem dX8_of_1 : decode cX8_of 1 = .ok (.getfield 7, 3) := by decide +kernel
theorem dX8_of_4 : decode cX8_of 4 = .ok (.bipush 30, 2) := by decide +kernel
theorem dX8_of_6 : decode cX8_of 6 = .ok (.bipush 14, 2) := by decide +kernel
theorem dX8_of_8 : decode cX8_of 8 = .ok (.iload_n 1, 1) := by decide +kernel
theorem dX8_of_9 : decode cX8_of 9 = .ok (.imul, 1) := by decide +kernel
theorem dX8_of_10 : decode cX8_of 10 = .ok (.iadd, 1) := by decide +kernel
theorem dX8_of_11 : decode cX8_of 11 = .ok (.iload_n 2, 1) := by decide +kernel
theorem dX8_of_12 : decode cX8_of 12 = .ok (.iadd, 1) := by decide +kernel
theorem dX8_of_13 : decode cX8_of 13 = .ok (.iaload, 1) := by decide +kernel
theorem dX8_of_14 : decode cX8_of 14 = .ok (.ireturn, 1) := by decide +kernel
theorem dX8_puts_0 : decode cX8_puts 0 = .ok (.aload_n 0, 1) := by decide +kernel
theorem dX8_puts_1 : decode cX8_puts 1 = .ok (.getfield 7, 3) := by decide +kernel
theorem dX8_puts_4 : decode cX8_puts 4 = .ok (.bipush 30, 2) := by decide +kernel
theorem dX8_puts_6 : decode cX8_puts 6 = .ok (.bipush 14, 2) := by decide +kernel
theorem dX8_puts_8 : decode cX8_puts 8 = .ok (.iload_n 1, 1) := by decide +kernel
theorem dX8_puts_9 : decode cX8_puts 9 = .ok (.imul, 1) := by decide +kernel
theorem dX8_puts_10 : decode cX8_puts 10 = .ok (.iadd, 1) := by decide +kernel
theorem dX8_puts_11 : decode cX8_puts 11 = .ok (.iload_n 2, 1) := by decide +kernel
theorem dX8_puts_12 : decode cX8_puts 12 = .ok (.iadd, 1) := by decide +kernel
theorem dX8_puts_13 : decode cX8_puts 13 = .ok (.iload_n 3, 1) := by decide +kernel
theorem dX8_puts_14 : decode cX8_puts 14 = .ok (.iastore, 1) := by decide +kernel
theorem dX8_puts_15 : decode cX8_puts 15 = .ok (.return_, 1) := by decide +kernel
theorem dX8_rooms_0 : decode cX8_rooms 0 = .ok (.aload_n 0, 1) := by decide +kernel
theorem dX8_rooms_1 : decode cX8_rooms 1 = .ok (.getfield 7, 3) := by decide +kernel
theorem dX8_rooms_4 : decode cX8_rooms 4 = .ok (.bipush 6, 2) := by decide +kernel
theorem dX8_rooms_6 : decode cX8_rooms 6 = .ok (.iconst 2, 1) := by decide +kernel
theorem dX8_rooms_7 : decode cX8_rooms 7 = .ok (.iload_n 1, 1) := by decide +kernel
theorem dX8_rooms_8 : decode cX8_rooms 8 = .ok (.imul, 1) := by decide +kernel
theorem dX8_rooms_9 : decode cX8_rooms 9 = .ok (.iadd, 1) := by decide +kernel
theorem dX8_rooms_10 : decode cX8_rooms 10 = .ok (.iaload, 1) := by decide +kernel
theorem dX8_rooms_11 : decode cX8_rooms 11 = .ok (.ireturn, 1) := by decide +kernel
theorem dX8_rent_0 : decode cX8_rent 0 = .ok (.aload_n 0, 1) := by decide +kernel
theorem dX8_rent_1 : decode cX8_rent 1 = .ok (.getfield 7, 3) := by decide +kernel
theorem dX8_rent_4 : decode cX8_rent 4 = .ok (.bipush 6, 2) := by decide +kernel
theorem dX8_rent_6 : decode cX8_rent 6 = .ok (.iconst 2, 1) := by decide +kernel
theorem dX8_rent_7 : decode cX8_rent 7 = .ok (.iload_n 1, 1) := by decide +kernel
theorem dX8_rent_8 : decode cX8_rent 8 = .ok (.imul, 1) := by decide +kernel
theorem dX8_rent_9 : decode cX8_rent 9 = .ok (.iadd, 1) := by decide +kernel
theorem dX8_rent_10 : decode cX8_rent 10 = .ok (.iconst 1, 1) := by decide +kernel
theorem dX8_rent_11 : decode cX8_rent 11 = .ok (.iadd, 1) := by decide +kernel
theorem dX8_rent_12 : decode cX8_rent 12 = .ok (.iaload, 1) := by decide +kernel
theorem dX8_rent_13 : decode cX8_rent 13 = .ok (.ireturn, 1) := by decide +kernel
set_option maxRecDepth 20000 in
theorem ggX8_isEligible_X8_of : GoodIn wsX8_isEligible wsX8_of := goodIn_r _ [5, 6, 15, 16, 17, 18, 19, 20, 21, 22, 23, 24, 25, 26, 27] (by decide +kernel) (by decide +kernel)
set_option maxRecDepth 20000 in
theorem gX8_isEligible_X8_of : GoodIn wsX8_isEligible (wsV RX8 59 RX8 yX8_of wsX8_of) := goodIn_app (goodIn_of _ (by decide +kernel)) ggX8_isEligible_X8_of
set_option maxRecDepth 20000 in
theorem ggX8_isEligible_X8_rooms : GoodIn wsX8_isEligible wsX8_rooms := goodIn_r _ [10, 6, 15, 16, 17, 18, 19, 20, 21, 22, 23, 24, 25, 26, 27] (by decide +kernel) (by decide +kernel)
set_option maxRecDepth 20000 in
theorem gX8_isEligible_X8_rooms : GoodIn wsX8_isEligible (wsV RX8 63 RX8 yX8_rooms wsX8_rooms) := goodIn_app (goodIn_of _ (by decide +kernel)) ggX8_isEligible_X8_rooms
set_option maxRecDepth 20000 in
theorem ggX8_isEligible_X8_rent : GoodIn wsX8_isEligible wsX8_rent := goodIn_r _ [14, 6, 15, 16, 17, 18, 19, 20, 21, 22, 23, 24, 25, 26, 27] (by decide +kernel) (by decide +kernel)
set_option maxRecDepth 20000 in
theorem gX8_isEligible_X8_rent : GoodIn wsX8_isEligible (wsV RX8 67 RX8 yX8_rent wsX8_rent) := goodIn_app (goodIn_of _ (by decide +kernel)) ggX8_isEligible_X8_rent
theorem dX8_isEligible_0 : decode cX8_isEligible 0 = .ok (.aload_n 0, 1) := by decide +kernel
theorem dX8_isEligible_1 : decode cX8_isEligible 1 = .ok (.iload_n 1, 1) := by decide +kernel
theorem dX8_isEligible_2 : decode cX8_isEligible 2 = .ok (.iconst 0, 1) := by decide +kernel
theorem dX8_isEligible_3 : decode cX8_isEligible 3 = .ok (.invokevirtual 59, 3) := by decide +kernel
theorem dX8_isEligible_6 : decode cX8_isEligible 6 = .ok (.istore_n 3, 1) := by decide +kernel
theorem dX8_isEligible_7 : decode cX8_isEligible 7 = .ok (.iload_n 3, 1) := by decide +kernel
theorem dX8_isEligible_8 : decode cX8_isEligible 8 = .ok (.iconst 2, 1) := by decide +kernel
theorem dX8_isEligible_9 : decode cX8_isEligible 9 = .ok (.aload_n 0, 1) := by decide +kernel
theorem dX8_isEligible_10 : decode cX8_isEligible 10 = .ok (.iload_n 2, 1) := by decide +kernel
theorem dX8_isEligible_11 : decode cX8_isEligible 11 = .ok (.invokevirtual 63, 3) := by decide +kernel
theorem dX8_isEligible_14 : decode cX8_isEligible 14 = .ok (.imul, 1) := by decide +kernel
theorem dX8_isEligible_15 : decode cX8_isEligible 15 = .ok (.if_icmp .gt 34, 3) := by decide +kernel
theorem dX8_isEligible_18 : decode cX8_isEligible 18 = .ok (.aload_n 0, 1) := by decide +kernel
theorem dX8_isEligible_19 : decode cX8_isEligible 19 = .ok (.iload_n 2, 1) := by decide +kernel
theorem dX8_isEligible_20 : decode cX8_isEligible 20 = .ok (.invokevirtual 63, 3) := by decide +kernel
theorem dX8_isEligible_23 : decode cX8_isEligible 23 = .ok (.iload_n 3, 1) := by decide +kernel
theorem dX8_isEligible_24 : decode cX8_isEligible 24 = .ok (.iconst 1, 1) := by decide +kernel
theorem dX8_isEligible_25 : decode cX8_isEligible 25 = .ok (.iadd, 1) := by decide +kernel
theorem dX8_isEligible_26 : decode cX8_isEligible 26 = .ok (.if_icmp .gt 23, 3) := by decide +kernel
theorem dX8_isEligible_29 : decode cX8_isEligible 29 = .ok (.iconst 3, 1) := by decide +kernel
theorem dX8_isEligible_30 : decode cX8_isEligible 30 = .ok (.aload_n 0, 1) := by decide +kernel
theorem dX8_isEligible_31 : decode cX8_isEligible 31 = .ok (.iload_n 2, 1) := by decide +kernel
theorem dX8_isEligible_32 : decode cX8_isEligible 32 = .ok (.invokevirtual 67, 3) := by decide +kernel
theorem dX8_isEligible_35 : decode cX8_isEligible 35 = .ok (.imul, 1) := by decide +kernel
theorem dX8_isEligible_36 : decode cX8_isEligible 36 = .ok (.aload_n 0, 1) := by decide +kernel
theorem dX8_isEligible_37 : decode cX8_isEligible 37 = .ok (.iload_n 1, 1) := by decide +kernel
theorem dX8_isEligible_38 : decode cX8_isEligible 38 = .ok (.iconst 1, 1) := by decide +kernel
theorem dX8_isEligible_39 : decode cX8_isEligible 39 = .ok (.invokevirtual 59, 3) := by decide +kernel
theorem dX8_isEligible_42 : decode cX8_isEligible 42 = .ok (.if_icmp .gt 7, 3) := by decide +kernel
theorem dX8_isEligible_45 : decode cX8_isEligible 45 = .ok (.iconst 1, 1) := by decide +kernel
theorem dX8_isEligible_46 : decode cX8_isEligible 46 = .ok (.goto 4, 3) := by decide +kernel
theorem dX8_isEligible_49 : decode cX8_isEligible 49 = .ok (.iconst 0, 1) := by decide +kernel
theorem dX8_isEligible_50 : decode cX8_isEligible 50 = .ok (.ireturn, 1) := by decide +kernel
set_option maxRecDepth 20000 in
theorem ggX8_placeOn_X8_of : GoodIn wsX8_placeOn wsX8_of := goodIn_r _ [5, 6, 7, 8, 9, 10, 11, 12, 13, 14, 15, 16, 17, 18, 19] (by decide +kernel) (by decide +kernel)
set_option maxRecDepth 20000 in
theorem gX8_placeOn_X8_of : GoodIn wsX8_placeOn (wsV RX8 59 RX8 yX8_of wsX8_of) := goodIn_app (goodIn_of _ (by decide +kernel)) ggX8_placeOn_X8_of
theorem dX8_placeOn_0 : decode cX8_placeOn 0 = .ok (.bipush (-5), 2) := by decide +kernel
theorem dX8_placeOn_2 : decode cX8_placeOn 2 = .ok (.istore_n 3, 1) := by decide +kernel
theorem dX8_placeOn_3 : decode cX8_placeOn 3 = .ok (.iconst 0, 1) := by decide +kernel
theorem dX8_placeOn_4 : decode cX8_placeOn 4 = .ok (.istore 4, 2) := by decide +kernel
theorem dX8_placeOn_6 : decode cX8_placeOn 6 = .ok (.iload 4, 2) := by decide +kernel
theorem dX8_placeOn_8 : decode cX8_placeOn 8 = .ok (.aload_n 0, 1) := by decide +kernel
theorem dX8_placeOn_9 : decode cX8_placeOn 9 = .ok (.iload_n 1, 1) := by decide +kernel
theorem dX8_placeOn_10 : decode cX8_placeOn 10 = .ok (.bipush 7, 2) := by decide +kernel
theorem dX8_placeOn_12 : decode cX8_placeOn 12 = .ok (.invokevirtual 59, 3) := by decide +kernel
theorem dX8_placeOn_15 : decode cX8_placeOn 15 = .ok (.if_icmp .ge 30, 3) := by decide +kernel
theorem dX8_placeOn_18 : decode cX8_placeOn 18 = .ok (.aload_n 0, 1) := by decide +kernel
theorem dX8_placeOn_19 : decode cX8_placeOn 19 = .ok (.iload_n 1, 1) := by decide +kernel
theorem dX8_placeOn_20 : decode cX8_placeOn 20 = .ok (.bipush 8, 2) := by decide +kernel
theorem dX8_placeOn_22 : decode cX8_placeOn 22 = .ok (.iload 4, 2) := by decide +kernel
theorem dX8_placeOn_24 : decode cX8_placeOn 24 = .ok (.iadd, 1) := by decide +kernel
theorem dX8_placeOn_25 : decode cX8_placeOn 25 = .ok (.invokevirtual 59, 3) := by decide +kernel
theorem dX8_placeOn_28 : decode cX8_placeOn 28 = .ok (.iload_n 2, 1) := by decide +kernel
theorem dX8_placeOn_29 : decode cX8_placeOn 29 = .ok (.if_icmp .ne 8, 3) := by decide +kernel
theorem dX8_placeOn_32 : decode cX8_placeOn 32 = .ok (.iload 4, 2) := by decide +kernel
theorem dX8_placeOn_34 : decode cX8_placeOn 34 = .ok (.goto 4, 3) := by decide +kernel
theorem dX8_placeOn_37 : decode cX8_placeOn 37 = .ok (.iload_n 3, 1) := by decide +kernel
theorem dX8_placeOn_38 : decode cX8_placeOn 38 = .ok (.istore_n 3, 1) := by decide +kernel
theorem dX8_placeOn_39 : decode cX8_placeOn 39 = .ok (.iinc 4 1, 3) := by decide +kernel
theorem dX8_placeOn_42 : decode cX8_placeOn 42 = .ok (.goto (-36), 3) := by decide +kernel
theorem dX8_placeOn_45 : decode cX8_placeOn 45 = .ok (.iload_n 3, 1) := by decide +kernel
theorem dX8_placeOn_46 : decode cX8_placeOn 46 = .ok (.ireturn, 1) := by decide +kernel
set_option maxRecDepth 20000 in
theorem ggX8_wishesMore_X8_placeOn : GoodIn wsX8_wishesMore wsX8_placeOn := goodIn_r _ [5, 6, 7, 8, 4, 9, 10, 11, 12, 13, 14, 15, 16, 17, 18, 19, 20, 21, 22, 23] (by decide +kernel) (by decide +kernel)
set_option maxRecDepth 20000 in
theorem gX8_wishesMore_X8_placeOn : GoodIn wsX8_wishesMore (wsV RX8 70 RX8 yX8_placeOn wsX8_placeOn) := goodIn_app (goodIn_of _ (by decide +kernel)) ggX8_wishesMore_X8_placeOn
set_option maxRecDepth 20000 in
theorem ggX8_wishesMore_X8_of : GoodIn wsX8_wishesMore wsX8_of := goodIn_r _ [9, 10, 11, 12, 13, 14, 15, 16, 17, 18, 19, 20, 21, 22, 23] (by decide +kernel) (by decide +kernel)
set_option maxRecDepth 20000 in
theorem gX8_wishesMore_X8_of : GoodIn wsX8_wishesMore (wsV RX8 59 RX8 yX8_of wsX8_of) := goodIn_app (goodIn_of _ (by decide +kernel)) ggX8_wishesMore_X8_of
theorem dX8_wishesMore_0 : decode cX8_wishesMore 0 = .ok (.aload_n 0, 1) := by decide +kernel
theorem dX8_wishesMore_1 : decode cX8_wishesMore 1 = .ok (.iload_n 1, 1) := by decide +kernel
theorem dX8_wishesMore_2 : decode cX8_wishesMore 2 = .ok (.iload_n 2, 1) := by decide +kernel
theorem dX8_wishesMore_3 : decode cX8_wishesMore 3 = .ok (.invokevirtual 70, 3) := by decide +kernel
theorem dX8_wishesMore_6 : decode cX8_wishesMore 6 = .ok (.istore_n 3, 1) := by decide +kernel
theorem dX8_wishesMore_7 : decode cX8_wishesMore 7 = .ok (.aload_n 0, 1) := by decide +kernel
theorem dX8_wishesMore_8 : decode cX8_wishesMore 8 = .ok (.iload_n 1, 1) := by decide +kernel
theorem dX8_wishesMore_9 : decode cX8_wishesMore 9 = .ok (.iconst 4, 1) := by decide +kernel
theorem dX8_wishesMore_10 : decode cX8_wishesMore 10 = .ok (.invokevirtual 59, 3) := by decide +kernel
theorem dX8_wishesMore_13 : decode cX8_wishesMore 13 = .ok (.bipush (-5), 2) := by decide +kernel
theorem dX8_wishesMore_15 : decode cX8_wishesMore 15 = .ok (.if_icmp .ne 8, 3) := by decide +kernel
theorem dX8_wishesMore_18 : decode cX8_wishesMore 18 = .ok (.bipush (-5), 2) := by decide +kernel
theorem dX8_wishesMore_20 : decode cX8_wishesMore 20 = .ok (.goto 14, 3) := by decide +kernel
theorem dX8_wishesMore_23 : decode cX8_wishesMore 23 = .ok (.aload_n 0, 1) := by decide +kernel
theorem dX8_wishesMore_24 : decode cX8_wishesMore 24 = .ok (.iload_n 1, 1) := by decide +kernel
theorem dX8_wishesMore_25 : decode cX8_wishesMore 25 = .ok (.aload_n 0, 1) := by decide +kernel
theorem dX8_wishesMore_26 : decode cX8_wishesMore 26 = .ok (.iload_n 1, 1) := by decide +kernel
theorem dX8_wishesMore_27 : decode cX8_wishesMore 27 = .ok (.iconst 4, 1) := by decide +kernel
theorem dX8_wishesMore_28 : decode cX8_wishesMore 28 = .ok (.invokevirtual 59, 3) := by decide +kernel
theorem dX8_wishesMore_31 : decode cX8_wishesMore 31 = .ok (.invokevirtual 70, 3) := by decide +kernel
theorem dX8_wishesMore_34 : decode cX8_wishesMore 34 = .ok (.istore 4, 2) := by decide +kernel
theorem dX8_wishesMore_36 : decode cX8_wishesMore 36 = .ok (.iload_n 3, 1) := by decide +kernel
theorem dX8_wishesMore_37 : decode cX8_wishesMore 37 = .ok (.bipush (-5), 2) := by decide +kernel
theorem dX8_wishesMore_39 : decode cX8_wishesMore 39 = .ok (.if_icmp .eq 20, 3) := by decide +kernel
theorem dX8_wishesMore_42 : decode cX8_wishesMore 42 = .ok (.iload 4, 2) := by decide +kernel
theorem dX8_wishesMore_44 : decode cX8_wishesMore 44 = .ok (.bipush (-5), 2) := by decide +kernel
theorem dX8_wishesMore_46 : decode cX8_wishesMore 46 = .ok (.if_icmp .eq 9, 3) := by decide +kernel
theorem dX8_wishesMore_49 : decode cX8_wishesMore 49 = .ok (.iload_n 3, 1) := by decide +kernel
theorem dX8_wishesMore_50 : decode cX8_wishesMore 50 = .ok (.iload 4, 2) := by decide +kernel
theorem dX8_wishesMore_52 : decode cX8_wishesMore 52 = .ok (.if_icmp .ge 7, 3) := by decide +kernel
theorem dX8_wishesMore_55 : decode cX8_wishesMore 55 = .ok (.iconst 1, 1) := by decide +kernel
theorem dX8_wishesMore_56 : decode cX8_wishesMore 56 = .ok (.goto 4, 3) := by decide +kernel
theorem dX8_wishesMore_59 : decode cX8_wishesMore 59 = .ok (.iconst 0, 1) := by decide +kernel
theorem dX8_wishesMore_60 : decode cX8_wishesMore 60 = .ok (.ireturn, 1) := by decide +kernel
set_option maxRecDepth 20000 in
theorem ggX8_holder_X8_of : GoodIn wsX8_holder wsX8_of := goodIn_r _ [6, 1, 7, 8, 9, 10, 11, 12, 13, 14, 15, 16, 17, 18, 19] (by decide +kernel) (by decide +kernel)
set_option maxRecDepth 20000 in
theorem gX8_holder_X8_of : GoodIn wsX8_holder (wsV RX8 59 RX8 yX8_of wsX8_of) := goodIn_app (goodIn_of _ (by decide +kernel)) ggX8_holder_X8_of
theorem dX8_holder_0 : decode cX8_holder 0 = .ok (.bipush (-5), 2) := by decide +kernel
theorem dX8_holder_2 : decode cX8_holder 2 = .ok (.istore_n 2, 1) := by decide +kernel
theorem dX8_holder_3 : decode cX8_holder 3 = .ok (.iconst 0, 1) := by decide +kernel
theorem dX8_holder_4 : decode cX8_holder 4 = .ok (.istore_n 3, 1) := by decide +kernel
theorem dX8_holder_5 : decode cX8_holder 5 = .ok (.iload_n 3, 1) := by decide +kernel
theorem dX8_holder_6 : decode cX8_holder 6 = .ok (.aload_n 0, 1) := by decide +kernel
theorem dX8_holder_7 : decode cX8_holder 7 = .ok (.getfield 7, 3) := by decide +kernel
theorem dX8_holder_10 : decode cX8_holder 10 = .ok (.iconst 1, 1) := by decide +kernel
theorem dX8_holder_11 : decode cX8_holder 11 = .ok (.iaload, 1) := by decide +kernel
theorem dX8_holder_12 : decode cX8_holder 12 = .ok (.if_icmp .ge 25, 3) := by decide +kernel
theorem dX8_holder_15 : decode cX8_holder 15 = .ok (.aload_n 0, 1) := by decide +kernel
theorem dX8_holder_16 : decode cX8_holder 16 = .ok (.iload_n 3, 1) := by decide +kernel
theorem dX8_holder_17 : decode cX8_holder 17 = .ok (.iconst 4, 1) := by decide +kernel
theorem dX8_holder_18 : decode cX8_holder 18 = .ok (.invokevirtual 59, 3) := by decide +kernel
theorem dX8_holder_21 : decode cX8_holder 21 = .ok (.iload_n 1, 1) := by decide +kernel
theorem dX8_holder_22 : decode cX8_holder 22 = .ok (.if_icmp .ne 7, 3) := by decide +kernel
theorem dX8_holder_25 : decode cX8_holder 25 = .ok (.iload_n 3, 1) := by decide +kernel
theorem dX8_holder_26 : decode cX8_holder 26 = .ok (.goto 4, 3) := by decide +kernel
theorem dX8_holder_29 : decode cX8_holder 29 = .ok (.iload_n 2, 1) := by decide +kernel
theorem dX8_holder_30 : decode cX8_holder 30 = .ok (.istore_n 2, 1) := by decide +kernel
theorem dX8_holder_31 : decode cX8_holder 31 = .ok (.iinc 3 1, 3) := by decide +kernel
theorem dX8_holder_34 : decode cX8_holder 34 = .ok (.goto (-29), 3) := by decide +kernel
theorem dX8_holder_37 : decode cX8_holder 37 = .ok (.iload_n 2, 1) := by decide +kernel
theorem dX8_holder_38 : decode cX8_holder 38 = .ok (.ireturn, 1) := by decide +kernel
set_option maxRecDepth 20000 in
theorem ggX8_held_X8_of : GoodIn wsX8_held wsX8_of := goodIn_r _ [6, 1, 7, 8, 9, 10, 11, 12, 13, 14, 15, 16, 17, 18, 19] (by decide +kernel) (by decide +kernel)
set_option maxRecDepth 20000 in
theorem gX8_held_X8_of : GoodIn wsX8_held (wsV RX8 59 RX8 yX8_of wsX8_of) := goodIn_app (goodIn_of _ (by decide +kernel)) ggX8_held_X8_of
theorem dX8_held_0 : decode cX8_held 0 = .ok (.iconst 0, 1) := by decide +kernel
theorem dX8_held_1 : decode cX8_held 1 = .ok (.istore_n 1, 1) := by decide +kernel
theorem dX8_held_2 : decode cX8_held 2 = .ok (.iconst 0, 1) := by decide +kernel
theorem dX8_held_3 : decode cX8_held 3 = .ok (.istore_n 2, 1) := by decide +kernel
theorem dX8_held_4 : decode cX8_held 4 = .ok (.iload_n 2, 1) := by decide +kernel
theorem dX8_held_5 : decode cX8_held 5 = .ok (.aload_n 0, 1) := by decide +kernel
theorem dX8_held_6 : decode cX8_held 6 = .ok (.getfield 7, 3) := by decide +kernel
theorem dX8_held_9 : decode cX8_held 9 = .ok (.iconst 1, 1) := by decide +kernel
theorem dX8_held_10 : decode cX8_held 10 = .ok (.iaload, 1) := by decide +kernel
theorem dX8_held_11 : decode cX8_held 11 = .ok (.if_icmp .ge 28, 3) := by decide +kernel
theorem dX8_held_14 : decode cX8_held 14 = .ok (.iload_n 1, 1) := by decide +kernel
theorem dX8_held_15 : decode cX8_held 15 = .ok (.aload_n 0, 1) := by decide +kernel
theorem dX8_held_16 : decode cX8_held 16 = .ok (.iload_n 2, 1) := by decide +kernel
theorem dX8_held_17 : decode cX8_held 17 = .ok (.iconst 4, 1) := by decide +kernel
theorem dX8_held_18 : decode cX8_held 18 = .ok (.invokevirtual 59, 3) := by decide +kernel
theorem dX8_held_21 : decode cX8_held 21 = .ok (.bipush (-5), 2) := by decide +kernel
theorem dX8_held_23 : decode cX8_held 23 = .ok (.if_icmp .ne 7, 3) := by decide +kernel
theorem dX8_held_26 : decode cX8_held 26 = .ok (.iconst 0, 1) := by decide +kernel
theorem dX8_held_27 : decode cX8_held 27 = .ok (.goto 4, 3) := by decide +kernel
theorem dX8_held_30 : decode cX8_held 30 = .ok (.iconst 1, 1) := by decide +kernel
theorem dX8_held_31 : decode cX8_held 31 = .ok (.iadd, 1) := by decide +kernel
theorem dX8_held_32 : decode cX8_held 32 = .ok (.istore_n 1, 1) := by decide +kernel
theorem dX8_held_33 : decode cX8_held 33 = .ok (.iinc 2 1, 3) := by decide +kernel
theorem dX8_held_36 : decode cX8_held 36 = .ok (.goto (-32), 3) := by decide +kernel
theorem dX8_held_39 : decode cX8_held 39 = .ok (.iload_n 1, 1) := by decide +kernel
theorem dX8_held_40 : decode cX8_held 40 = .ok (.ireturn, 1) := by decide +kernel
set_option maxRecDepth 20000 in
theorem ggX8_isDrawn_X8_of : GoodIn wsX8_isDrawn wsX8_of := goodIn_r _ [5, 6, 7, 8, 9, 10, 11, 12, 13, 14, 15, 16, 17, 18, 19] (by decide +kernel) (by decide +kernel)
set_option maxRecDepth 20000 in
theorem gX8_isDrawn_X8_of : GoodIn wsX8_isDrawn (wsV RX8 59 RX8 yX8_of wsX8_of) := goodIn_app (goodIn_of _ (by decide +kernel)) ggX8_isDrawn_X8_of
theorem dX8_isDrawn_0 : decode cX8_isDrawn 0 = .ok (.aload_n 0, 1) := by decide +kernel
theorem dX8_isDrawn_1 : decode cX8_isDrawn 1 = .ok (.iload_n 1, 1) := by decide +kernel
theorem dX8_isDrawn_2 : decode cX8_isDrawn 2 = .ok (.iconst 2, 1) := by decide +kernel
theorem dX8_isDrawn_3 : decode cX8_isDrawn 3 = .ok (.invokevirtual 59, 3) := by decide +kernel
theorem dX8_isDrawn_6 : decode cX8_isDrawn 6 = .ok (.ifCond .le 7, 3) := by decide +kernel
theorem dX8_isDrawn_9 : decode cX8_isDrawn 9 = .ok (.iconst 1, 1) := by decide +kernel
theorem dX8_isDrawn_10 : decode cX8_isDrawn 10 = .ok (.goto 4, 3) := by decide +kernel
theorem dX8_isDrawn_13 : decode cX8_isDrawn 13 = .ok (.iconst 0, 1) := by decide +kernel
theorem dX8_isDrawn_14 : decode cX8_isDrawn 14 = .ok (.ireturn, 1) := by decide +kernel
set_option maxRecDepth 20000 in
theorem ggX8_drawn_X8_isDrawn : GoodIn wsX8_drawn wsX8_isDrawn := goodIn_r _ [6, 7, 8, 9, 5, 10, 1, 11, 12, 13, 14, 15, 16, 17, 18, 19, 20, 21, 22, 23] (by decide +kernel) (by decide +kernel)
set_option maxRecDepth 20000 in
theorem gX8_drawn_X8_isDrawn : GoodIn wsX8_drawn (wsV RX8 73 RX8 yX8_isDrawn wsX8_isDrawn) := goodIn_app (goodIn_of _ (by decide +kernel)) ggX8_drawn_X8_isDrawn
theorem dX8_drawn_0 : decode cX8_drawn 0 = .ok (.iconst 0, 1) := by decide +kernel
theorem dX8_drawn_1 : decode cX8_drawn 1 = .ok (.istore_n 1, 1) := by decide +kernel
theorem dX8_drawn_2 : decode cX8_drawn 2 = .ok (.iconst 0, 1) := by decide +kernel
theorem dX8_drawn_3 : decode cX8_drawn 3 = .ok (.istore_n 2, 1) := by decide +kernel
theorem dX8_drawn_4 : decode cX8_drawn 4 = .ok (.iload_n 2, 1) := by decide +kernel
theorem dX8_drawn_5 : decode cX8_drawn 5 = .ok (.aload_n 0, 1) := by decide +kernel
theorem dX8_drawn_6 : decode cX8_drawn 6 = .ok (.getfield 7, 3) := by decide +kernel
theorem dX8_drawn_9 : decode cX8_drawn 9 = .ok (.iconst 1, 1) := by decide +kernel
theorem dX8_drawn_10 : decode cX8_drawn 10 = .ok (.iaload, 1) := by decide +kernel
theorem dX8_drawn_11 : decode cX8_drawn 11 = .ok (.if_icmp .ge 25, 3) := by decide +kernel
theorem dX8_drawn_14 : decode cX8_drawn 14 = .ok (.iload_n 1, 1) := by decide +kernel
theorem dX8_drawn_15 : decode cX8_drawn 15 = .ok (.aload_n 0, 1) := by decide +kernel
theorem dX8_drawn_16 : decode cX8_drawn 16 = .ok (.iload_n 2, 1) := by decide +kernel
theorem dX8_drawn_17 : decode cX8_drawn 17 = .ok (.invokevirtual 73, 3) := by decide +kernel
theorem dX8_drawn_20 : decode cX8_drawn 20 = .ok (.ifCond .eq 7, 3) := by decide +kernel
theorem dX8_drawn_23 : decode cX8_drawn 23 = .ok (.iconst 1, 1) := by decide +kernel
theorem dX8_drawn_24 : decode cX8_drawn 24 = .ok (.goto 4, 3) := by decide +kernel
theorem dX8_drawn_27 : decode cX8_drawn 27 = .ok (.iconst 0, 1) := by decide +kernel
theorem dX8_drawn_28 : decode cX8_drawn 28 = .ok (.iadd, 1) := by decide +kernel
theorem dX8_drawn_29 : decode cX8_drawn 29 = .ok (.istore_n 1, 1) := by decide +kernel
theorem dX8_drawn_30 : decode cX8_drawn 30 = .ok (.iinc 2 1, 3) := by decide +kernel
theorem dX8_drawn_33 : decode cX8_drawn 33 = .ok (.goto (-29), 3) := by decide +kernel
theorem dX8_drawn_36 : decode cX8_drawn 36 = .ok (.iload_n 1, 1) := by decide +kernel
theorem dX8_drawn_37 : decode cX8_drawn 37 = .ok (.ireturn, 1) := by decide +kernel
set_option maxRecDepth 20000 in
theorem ggX8_isAhead_X8_of : GoodIn wsX8_isAhead wsX8_of := goodIn_r _ [5, 6, 11, 12, 13, 14, 15, 16, 17, 18, 19, 20, 21, 22, 23] (by decide +kernel) (by decide +kernel)
set_option maxRecDepth 20000 in
theorem gX8_isAhead_X8_of : GoodIn wsX8_isAhead (wsV RX8 59 RX8 yX8_of wsX8_of) := goodIn_app (goodIn_of _ (by decide +kernel)) ggX8_isAhead_X8_of
set_option maxRecDepth 20000 in
theorem ggX8_isAhead_X8_isDrawn : GoodIn wsX8_isAhead wsX8_isDrawn := goodIn_r _ [10, 1, 2, 3, 4, 5, 6, 11, 12, 13, 14, 15, 16, 17, 18, 19, 20, 21, 22, 23] (by decide +kernel) (by decide +kernel)
set_option maxRecDepth 20000 in
theorem gX8_isAhead_X8_isDrawn : GoodIn wsX8_isAhead (wsV RX8 73 RX8 yX8_isDrawn wsX8_isDrawn) := goodIn_app (goodIn_of _ (by decide +kernel)) ggX8_isAhead_X8_isDrawn
theorem dX8_isAhead_0 : decode cX8_isAhead 0 = .ok (.aload_n 0, 1) := by decide +kernel
theorem dX8_isAhead_1 : decode cX8_isAhead 1 = .ok (.iload_n 1, 1) := by decide +kernel
theorem dX8_isAhead_2 : decode cX8_isAhead 2 = .ok (.iconst 3, 1) := by decide +kernel
theorem dX8_isAhead_3 : decode cX8_isAhead 3 = .ok (.invokevirtual 59, 3) := by decide +kernel
theorem dX8_isAhead_6 : decode cX8_isAhead 6 = .ok (.aload_n 0, 1) := by decide +kernel
theorem dX8_isAhead_7 : decode cX8_isAhead 7 = .ok (.iload_n 2, 1) := by decide +kernel
theorem dX8_isAhead_8 : decode cX8_isAhead 8 = .ok (.iconst 3, 1) := by decide +kernel
theorem dX8_isAhead_9 : decode cX8_isAhead 9 = .ok (.invokevirtual 59, 3) := by decide +kernel
theorem dX8_isAhead_12 : decode cX8_isAhead 12 = .ok (.isub, 1) := by decide +kernel
theorem dX8_isAhead_13 : decode cX8_isAhead 13 = .ok (.istore_n 3, 1) := by decide +kernel
theorem dX8_isAhead_14 : decode cX8_isAhead 14 = .ok (.aload_n 0, 1) := by decide +kernel
theorem dX8_isAhead_15 : decode cX8_isAhead 15 = .ok (.iload_n 1, 1) := by decide +kernel
theorem dX8_isAhead_16 : decode cX8_isAhead 16 = .ok (.invokevirtual 73, 3) := by decide +kernel
theorem dX8_isAhead_19 : decode cX8_isAhead 19 = .ok (.ifCond .eq 38, 3) := by decide +kernel
theorem dX8_isAhead_22 : decode cX8_isAhead 22 = .ok (.aload_n 0, 1) := by decide +kernel
theorem dX8_isAhead_23 : decode cX8_isAhead 23 = .ok (.iload_n 2, 1) := by decide +kernel
theorem dX8_isAhead_24 : decode cX8_isAhead 24 = .ok (.invokevirtual 73, 3) := by decide +kernel
theorem dX8_isAhead_27 : decode cX8_isAhead 27 = .ok (.ifCond .eq 26, 3) := by decide +kernel
theorem dX8_isAhead_30 : decode cX8_isAhead 30 = .ok (.iload_n 3, 1) := by decide +kernel
theorem dX8_isAhead_31 : decode cX8_isAhead 31 = .ok (.ifCond .gt 22, 3) := by decide +kernel
theorem dX8_isAhead_34 : decode cX8_isAhead 34 = .ok (.iload_n 3, 1) := by decide +kernel
theorem dX8_isAhead_35 : decode cX8_isAhead 35 = .ok (.ifCond .ne 22, 3) := by decide +kernel
theorem dX8_isAhead_38 : decode cX8_isAhead 38 = .ok (.aload_n 0, 1) := by decide +kernel
theorem dX8_isAhead_39 : decode cX8_isAhead 39 = .ok (.iload_n 1, 1) := by decide +kernel
theorem dX8_isAhead_40 : decode cX8_isAhead 40 = .ok (.iconst 2, 1) := by decide +kernel
theorem dX8_isAhead_41 : decode cX8_isAhead 41 = .ok (.invokevirtual 59, 3) := by decide +kernel
theorem dX8_isAhead_44 : decode cX8_isAhead 44 = .ok (.aload_n 0, 1) := by decide +kernel
theorem dX8_isAhead_45 : decode cX8_isAhead 45 = .ok (.iload_n 2, 1) := by decide +kernel
theorem dX8_isAhead_46 : decode cX8_isAhead 46 = .ok (.iconst 2, 1) := by decide +kernel
theorem dX8_isAhead_47 : decode cX8_isAhead 47 = .ok (.invokevirtual 59, 3) := by decide +kernel
theorem dX8_isAhead_50 : decode cX8_isAhead 50 = .ok (.if_icmp .ge 7, 3) := by decide +kernel
theorem dX8_isAhead_53 : decode cX8_isAhead 53 = .ok (.iconst 1, 1) := by decide +kernel
theorem dX8_isAhead_54 : decode cX8_isAhead 54 = .ok (.goto 4, 3) := by decide +kernel
theorem dX8_isAhead_57 : decode cX8_isAhead 57 = .ok (.iconst 0, 1) := by decide +kernel
theorem dX8_isAhead_58 : decode cX8_isAhead 58 = .ok (.ireturn, 1) := by decide +kernel
set_option maxRecDepth 20000 in
theorem ggX8_placeOf_X8_isDrawn : GoodIn wsX8_placeOf wsX8_isDrawn := goodIn_r _ [6, 7, 8, 9, 5, 10, 1, 15, 16, 17, 18, 19, 20, 21, 22, 23, 24, 25, 26, 27] (by decide +kernel) (by decide +kernel)
set_option maxRecDepth 20000 in
theorem gX8_placeOf_X8_isDrawn : GoodIn wsX8_placeOf (wsV RX8 73 RX8 yX8_isDrawn wsX8_isDrawn) := goodIn_app (goodIn_of _ (by decide +kernel)) ggX8_placeOf_X8_isDrawn
set_option maxRecDepth 20000 in
theorem ggX8_placeOf_X8_isAhead : GoodIn wsX8_placeOf wsX8_isAhead := goodIn_r _ [14, 7, 8, 9, 5, 10, 1, 2, 3, 4, 6, 15, 16, 17, 18, 19, 20, 21, 22, 23, 24, 25, 26, 27] (by decide +kernel) (by decide +kernel)
set_option maxRecDepth 20000 in
theorem gX8_placeOf_X8_isAhead : GoodIn wsX8_placeOf (wsV RX8 77 RX8 yX8_isAhead wsX8_isAhead) := goodIn_app (goodIn_of _ (by decide +kernel)) ggX8_placeOf_X8_isAhead
theorem dX8_placeOf_0 : decode cX8_placeOf 0 = .ok (.iconst 0, 1) := by decide +kernel
theorem dX8_placeOf_1 : decode cX8_placeOf 1 = .ok (.istore_n 2, 1) := by decide +kernel
theorem dX8_placeOf_2 : decode cX8_placeOf 2 = .ok (.iconst 0, 1) := by decide +kernel
theorem dX8_placeOf_3 : decode cX8_placeOf 3 = .ok (.istore_n 3, 1) := by decide +kernel
theorem dX8_placeOf_4 : decode cX8_placeOf 4 = .ok (.iload_n 3, 1) := by decide +kernel
theorem dX8_placeOf_5 : decode cX8_placeOf 5 = .ok (.aload_n 0, 1) := by decide +kernel
theorem dX8_placeOf_6 : decode cX8_placeOf 6 = .ok (.getfield 7, 3) := by decide +kernel
theorem dX8_placeOf_9 : decode cX8_placeOf 9 = .ok (.iconst 1, 1) := by decide +kernel
theorem dX8_placeOf_10 : decode cX8_placeOf 10 = .ok (.iaload, 1) := by decide +kernel
theorem dX8_placeOf_11 : decode cX8_placeOf 11 = .ok (.if_icmp .ge 34, 3) := by decide +kernel
theorem dX8_placeOf_14 : decode cX8_placeOf 14 = .ok (.iload_n 2, 1) := by decide +kernel
theorem dX8_placeOf_15 : decode cX8_placeOf 15 = .ok (.aload_n 0, 1) := by decide +kernel
theorem dX8_placeOf_16 : decode cX8_placeOf 16 = .ok (.iload_n 3, 1) := by decide +kernel
theorem dX8_placeOf_17 : decode cX8_placeOf 17 = .ok (.invokevirtual 73, 3) := by decide +kernel
theorem dX8_placeOf_20 : decode cX8_placeOf 20 = .ok (.ifCond .eq 16, 3) := by decide +kernel
theorem dX8_placeOf_23 : decode cX8_placeOf 23 = .ok (.aload_n 0, 1) := by decide +kernel
theorem dX8_placeOf_24 : decode cX8_placeOf 24 = .ok (.iload_n 3, 1) := by decide +kernel
theorem dX8_placeOf_25 : decode cX8_placeOf 25 = .ok (.iload_n 1, 1) := by decide +kernel
theorem dX8_placeOf_26 : decode cX8_placeOf 26 = .ok (.invokevirtual 77, 3) := by decide +kernel
theorem dX8_placeOf_29 : decode cX8_placeOf 29 = .ok (.ifCond .eq 7, 3) := by decide +kernel
theorem dX8_placeOf_32 : decode cX8_placeOf 32 = .ok (.iconst 1, 1) := by decide +kernel
theorem dX8_placeOf_33 : decode cX8_placeOf 33 = .ok (.goto 4, 3) := by decide +kernel
theorem dX8_placeOf_36 : decode cX8_placeOf 36 = .ok (.iconst 0, 1) := by decide +kernel
theorem dX8_placeOf_37 : decode cX8_placeOf 37 = .ok (.iadd, 1) := by decide +kernel
theorem dX8_placeOf_38 : decode cX8_placeOf 38 = .ok (.istore_n 2, 1) := by decide +kernel
theorem dX8_placeOf_39 : decode cX8_placeOf 39 = .ok (.iinc 3 1, 3) := by decide +kernel
theorem dX8_placeOf_42 : decode cX8_placeOf 42 = .ok (.goto (-38), 3) := by decide +kernel
theorem dX8_placeOf_45 : decode cX8_placeOf 45 = .ok (.aload_n 0, 1) := by decide +kernel
theorem dX8_placeOf_46 : decode cX8_placeOf 46 = .ok (.iload_n 1, 1) := by decide +kernel
theorem dX8_placeOf_47 : decode cX8_placeOf 47 = .ok (.invokevirtual 73, 3) := by decide +kernel
theorem dX8_placeOf_50 : decode cX8_placeOf 50 = .ok (.ifCond .eq 7, 3) := by decide +kernel
theorem dX8_placeOf_53 : decode cX8_placeOf 53 = .ok (.iload_n 2, 1) := by decide +kernel
theorem dX8_placeOf_54 : decode cX8_placeOf 54 = .ok (.goto 5, 3) := by decide +kernel
theorem dX8_placeOf_57 : decode cX8_placeOf 57 = .ok (.bipush (-5), 2) := by decide +kernel
theorem dX8_placeOf_59 : decode cX8_placeOf 59 = .ok (.ireturn, 1) := by decide +kernel
set_option maxRecDepth 20000 in
theorem ggX8_at_X8_isDrawn : GoodIn wsX8_at wsX8_isDrawn := goodIn_r _ [6, 7, 8, 9, 5, 10, 1, 19, 20, 21, 22, 23, 24, 25, 26, 27, 28, 29, 30, 31] (by decide +kernel) (by decide +kernel)
set_option maxRecDepth 20000 in
theorem gX8_at_X8_isDrawn : GoodIn wsX8_at (wsV RX8 73 RX8 yX8_isDrawn wsX8_isDrawn) := goodIn_app (goodIn_of _ (by decide +kernel)) ggX8_at_X8_isDrawn
set_option maxRecDepth 20000 in
theorem ggX8_at_X8_placeOf : GoodIn wsX8_at wsX8_placeOf := goodIn_r _ [14, 1, 2, 3, 4, 5, 6, 7, 8, 9, 10, 15, 16, 17, 18, 19, 20, 21, 22, 23, 24, 25, 26, 27, 28, 29, 30, 31] (by decide +kernel) (by decide +kernel)
set_option maxRecDepth 20000 in
theorem gX8_at_X8_placeOf : GoodIn wsX8_at (wsV RX8 81 RX8 yX8_placeOf wsX8_placeOf) := goodIn_app (goodIn_of _ (by decide +kernel)) ggX8_at_X8_placeOf
theorem dX8_at_0 : decode cX8_at 0 = .ok (.bipush (-5), 2) := by decide +kernel
theorem dX8_at_2 : decode cX8_at 2 = .ok (.istore_n 2, 1) := by decide +kernel
theorem dX8_at_3 : decode cX8_at 3 = .ok (.iconst 0, 1) := by decide +kernel
theorem dX8_at_4 : decode cX8_at 4 = .ok (.istore_n 3, 1) := by decide +kernel
theorem dX8_at_5 : decode cX8_at 5 = .ok (.iload_n 3, 1) := by decide +kernel
theorem dX8_at_6 : decode cX8_at 6 = .ok (.aload_n 0, 1) := by decide +kernel
theorem dX8_at_7 : decode cX8_at 7 = .ok (.getfield 7, 3) := by decide +kernel
theorem dX8_at_10 : decode cX8_at 10 = .ok (.iconst 1, 1) := by decide +kernel
theorem dX8_at_11 : decode cX8_at 11 = .ok (.iaload, 1) := by decide +kernel
theorem dX8_at_12 : decode cX8_at 12 = .ok (.if_icmp .ge 32, 3) := by decide +kernel
theorem dX8_at_15 : decode cX8_at 15 = .ok (.aload_n 0, 1) := by decide +kernel
theorem dX8_at_16 : decode cX8_at 16 = .ok (.iload_n 3, 1) := by decide +kernel
theorem dX8_at_17 : decode cX8_at 17 = .ok (.invokevirtual 73, 3) := by decide +kernel
theorem dX8_at_20 : decode cX8_at 20 = .ok (.ifCond .eq 16, 3) := by decide +kernel
theorem dX8_at_23 : decode cX8_at 23 = .ok (.aload_n 0, 1) := by decide +kernel
theorem dX8_at_24 : decode cX8_at 24 = .ok (.iload_n 3, 1) := by decide +kernel
theorem dX8_at_25 : decode cX8_at 25 = .ok (.invokevirtual 81, 3) := by decide +kernel
theorem dX8_at_28 : decode cX8_at 28 = .ok (.iload_n 1, 1) := by decide +kernel
theorem dX8_at_29 : decode cX8_at 29 = .ok (.if_icmp .ne 7, 3) := by decide +kernel
theorem dX8_at_32 : decode cX8_at 32 = .ok (.iload_n 3, 1) := by decide +kernel
theorem dX8_at_33 : decode cX8_at 33 = .ok (.goto 4, 3) := by decide +kernel
theorem dX8_at_36 : decode cX8_at 36 = .ok (.iload_n 2, 1) := by decide +kernel
theorem dX8_at_37 : decode cX8_at 37 = .ok (.istore_n 2, 1) := by decide +kernel
theorem dX8_at_38 : decode cX8_at 38 = .ok (.iinc 3 1, 3) := by decide +kernel
theorem dX8_at_41 : decode cX8_at 41 = .ok (.goto (-36), 3) := by decide +kernel
theorem dX8_at_44 : decode cX8_at 44 = .ok (.iload_n 2, 1) := by decide +kernel
theorem dX8_at_45 : decode cX8_at 45 = .ok (.ireturn, 1) := by decide +kernel
set_option maxRecDepth 20000 in
theorem ggX8_addFlat_X8_in : GoodIn wsX8_addFlat wsX8_in := goodIn_r _ [5] (by decide +kernel) (by decide +kernel)
set_option maxRecDepth 20000 in
theorem gX8_addFlat_X8_in : GoodIn wsX8_addFlat (va_wsS RX8 55 yX8_in wsX8_in) := goodIn_app (goodIn_of _ (by decide +kernel)) ggX8_addFlat_X8_in
set_option maxRecDepth 20000 in
theorem ggX8_addFlat_X8_records : GoodIn wsX8_addFlat wsX8_records := goodIn_r _ [9, 10, 11, 1, 12, 13, 4, 14, 15, 16, 17, 18, 19, 20, 21, 22, 23, 24, 25, 26, 27] (by decide +kernel) (by decide +kernel)
set_option maxRecDepth 20000 in
theorem gX8_addFlat_X8_records : GoodIn wsX8_addFlat (wsV RX8 52 RX8 yX8_records wsX8_records) := goodIn_app (goodIn_of _ (by decide +kernel)) ggX8_addFlat_X8_records
theorem dX8_addFlat_0 : decode cX8_addFlat 0 = .ok (.iload_n 1, 1) := by decide +kernel
theorem dX8_addFlat_1 : decode cX8_addFlat 1 = .ok (.iconst 1, 1) := by decide +kernel
theorem dX8_addFlat_2 : decode cX8_addFlat 2 = .ok (.iconst 5, 1) := by decide +kernel
theorem dX8_addFlat_3 : decode cX8_addFlat 3 = .ok (.invokestatic 55, 3) := by decide +kernel
theorem dX8_addFlat_6 : decode cX8_addFlat 6 = .ok (.ifCond .eq 14, 3) := by decide +kernel
theorem dX8_addFlat_9 : decode cX8_addFlat 9 = .ok (.iload_n 2, 1) := by decide +kernel
theorem dX8_addFlat_10 : decode cX8_addFlat 10 = .ok (.iconst 1, 1) := by decide +kernel
theorem dX8_addFlat_11 : decode cX8_addFlat 11 = .ok (.sipush 999, 3) := by decide +kernel
theorem dX8_addFlat_14 : decode cX8_addFlat 14 = .ok (.invokestatic 55, 3) := by decide +kernel
theorem dX8_addFlat_17 : decode cX8_addFlat 17 = .ok (.ifCond .ne 6, 3) := by decide +kernel
theorem dX8_addFlat_20 : decode cX8_addFlat 20 = .ok (.bipush (-2), 2) := by decide +kernel
theorem dX8_addFlat_22 : decode cX8_addFlat 22 = .ok (.ireturn, 1) := by decide +kernel
theorem dX8_addFlat_23 : decode cX8_addFlat 23 = .ok (.aload_n 0, 1) := by decide +kernel
theorem dX8_addFlat_24 : decode cX8_addFlat 24 = .ok (.getfield 7, 3) := by decide +kernel
theorem dX8_addFlat_27 : decode cX8_addFlat 27 = .ok (.iconst 0, 1) := by decide +kernel
theorem dX8_addFlat_28 : decode cX8_addFlat 28 = .ok (.iaload, 1) := by decide +kernel
theorem dX8_addFlat_29 : decode cX8_addFlat 29 = .ok (.istore_n 3, 1) := by decide +kernel
theorem dX8_addFlat_30 : decode cX8_addFlat 30 = .ok (.iload_n 3, 1) := by decide +kernel
theorem dX8_addFlat_31 : decode cX8_addFlat 31 = .ok (.bipush 12, 2) := by decide +kernel
theorem dX8_addFlat_33 : decode cX8_addFlat 33 = .ok (.if_icmp .ne 6, 3) := by decide +kernel
theorem dX8_addFlat_36 : decode cX8_addFlat 36 = .ok (.bipush (-3), 2) := by decide +kernel
theorem dX8_addFlat_38 : decode cX8_addFlat 38 = .ok (.ireturn, 1) := by decide +kernel
theorem dX8_addFlat_39 : decode cX8_addFlat 39 = .ok (.aload_n 0, 1) := by decide +kernel
theorem dX8_addFlat_40 : decode cX8_addFlat 40 = .ok (.invokevirtual 52, 3) := by decide +kernel
theorem dX8_addFlat_43 : decode cX8_addFlat 43 = .ok (.aload_n 0, 1) := by decide +kernel
theorem dX8_addFlat_44 : decode cX8_addFlat 44 = .ok (.getfield 7, 3) := by decide +kernel
theorem dX8_addFlat_47 : decode cX8_addFlat 47 = .ok (.bipush 6, 2) := by decide +kernel
theorem dX8_addFlat_49 : decode cX8_addFlat 49 = .ok (.iconst 2, 1) := by decide +kernel
theorem dX8_addFlat_50 : decode cX8_addFlat 50 = .ok (.iload_n 3, 1) := by decide +kernel
theorem dX8_addFlat_51 : decode cX8_addFlat 51 = .ok (.imul, 1) := by decide +kernel
theorem dX8_addFlat_52 : decode cX8_addFlat 52 = .ok (.iadd, 1) := by decide +kernel
theorem dX8_addFlat_53 : decode cX8_addFlat 53 = .ok (.iload_n 1, 1) := by decide +kernel
theorem dX8_addFlat_54 : decode cX8_addFlat 54 = .ok (.iastore, 1) := by decide +kernel
theorem dX8_addFlat_55 : decode cX8_addFlat 55 = .ok (.aload_n 0, 1) := by decide +kernel
theorem dX8_addFlat_56 : decode cX8_addFlat 56 = .ok (.getfield 7, 3) := by decide +kernel
theorem dX8_addFlat_59 : decode cX8_addFlat 59 = .ok (.bipush 6, 2) := by decide +kernel
theorem dX8_addFlat_61 : decode cX8_addFlat 61 = .ok (.iconst 2, 1) := by decide +kernel
theorem dX8_addFlat_62 : decode cX8_addFlat 62 = .ok (.iload_n 3, 1) := by decide +kernel
theorem dX8_addFlat_63 : decode cX8_addFlat 63 = .ok (.imul, 1) := by decide +kernel
theorem dX8_addFlat_64 : decode cX8_addFlat 64 = .ok (.iadd, 1) := by decide +kernel
theorem dX8_addFlat_65 : decode cX8_addFlat 65 = .ok (.iconst 1, 1) := by decide +kernel
theorem dX8_addFlat_66 : decode cX8_addFlat 66 = .ok (.iadd, 1) := by decide +kernel
theorem dX8_addFlat_67 : decode cX8_addFlat 67 = .ok (.iload_n 2, 1) := by decide +kernel
theorem dX8_addFlat_68 : decode cX8_addFlat 68 = .ok (.iastore, 1) := by decide +kernel
theorem dX8_addFlat_69 : decode cX8_addFlat 69 = .ok (.aload_n 0, 1) := by decide +kernel
theorem dX8_addFlat_70 : decode cX8_addFlat 70 = .ok (.getfield 7, 3) := by decide +kernel
theorem dX8_addFlat_73 : decode cX8_addFlat 73 = .ok (.iconst 0, 1) := by decide +kernel
theorem dX8_addFlat_74 : decode cX8_addFlat 74 = .ok (.dup2, 1) := by decide +kernel
theorem dX8_addFlat_75 : decode cX8_addFlat 75 = .ok (.iaload, 1) := by decide +kernel
theorem dX8_addFlat_76 : decode cX8_addFlat 76 = .ok (.iconst 1, 1) := by decide +kernel
theorem dX8_addFlat_77 : decode cX8_addFlat 77 = .ok (.iadd, 1) := by decide +kernel
theorem dX8_addFlat_78 : decode cX8_addFlat 78 = .ok (.iastore, 1) := by decide +kernel
theorem dX8_addFlat_79 : decode cX8_addFlat 79 = .ok (.iload_n 3, 1) := by decide +kernel
theorem dX8_addFlat_80 : decode cX8_addFlat 80 = .ok (.ireturn, 1) := by decide +kernel
set_option maxRecDepth 20000 in
theorem ggX8_isNumber_X8_in : GoodIn wsX8_isNumber wsX8_in := goodIn_r _ [4] (by decide +kernel) (by decide +kernel)
set_option maxRecDepth 20000 in
theorem gX8_isNumber_X8_in : GoodIn wsX8_isNumber (va_wsS RX8 55 yX8_in wsX8_in) := goodIn_app (goodIn_of _ (by decide +kernel)) ggX8_isNumber_X8_in
theorem dX8_isNumber_0 : decode cX8_isNumber 0 = .ok (.iload_n 1, 1) := by decide +kernel
theorem dX8_isNumber_1 : decode cX8_isNumber 1 = .ok (.iconst 1, 1) := by decide +kernel
theorem dX8_isNumber_2 : decode cX8_isNumber 2 = .ok (.iload_n 0, 1) := by decide +kernel
theorem dX8_isNumber_3 : decode cX8_isNumber 3 = .ok (.ifCond .eq 9, 3) := by decide +kernel
theorem dX8_isNumber_6 : decode cX8_isNumber 6 = .ok (.sipush 9999, 3) := by decide +kernel
theorem dX8_isNumber_9 : decode cX8_isNumber 9 = .ok (.goto 5, 3) := by decide +kernel
theorem dX8_isNumber_12 : decode cX8_isNumber 12 = .ok (.bipush 9, 2) := by decide +kernel
theorem dX8_isNumber_14 : decode cX8_isNumber 14 = .ok (.invokestatic 55, 3) := by decide +kernel
theorem dX8_isNumber_17 : decode cX8_isNumber 17 = .ok (.ireturn, 1) := by decide +kernel
set_option maxRecDepth 20000 in
theorem ggX8_addHousehold_X8_isNumber : GoodIn wsX8_addHousehold wsX8_isNumber := goodIn_r _ [5, 6, 7, 4, 8] (by decide +kernel) (by decide +kernel)
set_option maxRecDepth 20000 in
theorem gX8_addHousehold_X8_isNumber : GoodIn wsX8_addHousehold (va_wsS RX8 84 yX8_isNumber wsX8_isNumber) := goodIn_app (goodIn_of _ (by decide +kernel)) ggX8_addHousehold_X8_isNumber
set_option maxRecDepth 20000 in
theorem ggX8_addHousehold_X8_records : GoodIn wsX8_addHousehold wsX8_records := goodIn_r _ [12, 13, 14, 1, 15, 16, 4, 17, 22, 23, 24, 25, 26, 27, 28, 29, 30, 31, 32, 33, 34] (by decide +kernel) (by decide +kernel)
set_option maxRecDepth 20000 in
theorem gX8_addHousehold_X8_records : GoodIn wsX8_addHousehold (wsV RX8 52 RX8 yX8_records wsX8_records) := goodIn_app (goodIn_of _ (by decide +kernel)) ggX8_addHousehold_X8_records
set_option maxRecDepth 20000 in
theorem ggX8_addHousehold_X8_puts : GoodIn wsX8_addHousehold wsX8_puts := goodIn_r _ [21, 1, 22, 23, 24, 25, 26, 27, 28, 29, 30, 31, 32, 33, 34] (by decide +kernel) (by decide +kernel)
set_option maxRecDepth 20000 in
theorem gX8_addHousehold_X8_puts : GoodIn wsX8_addHousehold (wsV RX8 88 RX8 yX8_puts wsX8_puts) := goodIn_app (goodIn_of _ (by decide +kernel)) ggX8_addHousehold_X8_puts
theorem dX8_addHousehold_0 : decode cX8_addHousehold 0 = .ok (.iconst 0, 1) := by decide +kernel
theorem dX8_addHousehold_1 : decode cX8_addHousehold 1 = .ok (.iload_n 1, 1) := by decide +kernel
theorem dX8_addHousehold_2 : decode cX8_addHousehold 2 = .ok (.invokestatic 84, 3) := by decide +kernel
theorem dX8_addHousehold_5 : decode cX8_addHousehold 5 = .ok (.ifCond .eq 11, 3) := by decide +kernel
theorem dX8_addHousehold_8 : decode cX8_addHousehold 8 = .ok (.iconst 1, 1) := by decide +kernel
theorem dX8_addHousehold_9 : decode cX8_addHousehold 9 = .ok (.iload_n 2, 1) := by decide +kernel
theorem dX8_addHousehold_10 : decode cX8_addHousehold 10 = .ok (.invokestatic 84, 3) := by decide +kernel
theorem dX8_addHousehold_13 : decode cX8_addHousehold 13 = .ok (.ifCond .ne 6, 3) := by decide +kernel
theorem dX8_addHousehold_16 : decode cX8_addHousehold 16 = .ok (.bipush (-2), 2) := by decide +kernel
theorem dX8_addHousehold_18 : decode cX8_addHousehold 18 = .ok (.ireturn, 1) := by decide +kernel
theorem dX8_addHousehold_19 : decode cX8_addHousehold 19 = .ok (.aload_n 0, 1) := by decide +kernel
theorem dX8_addHousehold_20 : decode cX8_addHousehold 20 = .ok (.getfield 7, 3) := by decide +kernel
theorem dX8_addHousehold_23 : decode cX8_addHousehold 23 = .ok (.iconst 1, 1) := by decide +kernel
theorem dX8_addHousehold_24 : decode cX8_addHousehold 24 = .ok (.iaload, 1) := by decide +kernel
theorem dX8_addHousehold_25 : decode cX8_addHousehold 25 = .ok (.istore_n 3, 1) := by decide +kernel
theorem dX8_addHousehold_26 : decode cX8_addHousehold 26 = .ok (.iload_n 3, 1) := by decide +kernel
theorem dX8_addHousehold_27 : decode cX8_addHousehold 27 = .ok (.bipush 12, 2) := by decide +kernel
theorem dX8_addHousehold_29 : decode cX8_addHousehold 29 = .ok (.if_icmp .ne 6, 3) := by decide +kernel
theorem dX8_addHousehold_32 : decode cX8_addHousehold 32 = .ok (.bipush (-3), 2) := by decide +kernel
theorem dX8_addHousehold_34 : decode cX8_addHousehold 34 = .ok (.ireturn, 1) := by decide +kernel
theorem dX8_addHousehold_35 : decode cX8_addHousehold 35 = .ok (.aload_n 0, 1) := by decide +kernel
theorem dX8_addHousehold_36 : decode cX8_addHousehold 36 = .ok (.invokevirtual 52, 3) := by decide +kernel
theorem dX8_addHousehold_39 : decode cX8_addHousehold 39 = .ok (.iconst 0, 1) := by decide +kernel
theorem dX8_addHousehold_40 : decode cX8_addHousehold 40 = .ok (.istore 4, 2) := by decide +kernel
theorem dX8_addHousehold_42 : decode cX8_addHousehold 42 = .ok (.iload 4, 2) := by decide +kernel
theorem dX8_addHousehold_44 : decode cX8_addHousehold 44 = .ok (.bipush 14, 2) := by decide +kernel
theorem dX8_addHousehold_46 : decode cX8_addHousehold 46 = .ok (.if_icmp .ge 17, 3) := by decide +kernel
theorem dX8_addHousehold_49 : decode cX8_addHousehold 49 = .ok (.aload_n 0, 1) := by decide +kernel
theorem dX8_addHousehold_50 : decode cX8_addHousehold 50 = .ok (.iload_n 3, 1) := by decide +kernel
theorem dX8_addHousehold_51 : decode cX8_addHousehold 51 = .ok (.iload 4, 2) := by decide +kernel
theorem dX8_addHousehold_53 : decode cX8_addHousehold 53 = .ok (.iconst 0, 1) := by decide +kernel
theorem dX8_addHousehold_54 : decode cX8_addHousehold 54 = .ok (.invokevirtual 88, 3) := by decide +kernel
theorem dX8_addHousehold_57 : decode cX8_addHousehold 57 = .ok (.iinc 4 1, 3) := by decide +kernel
theorem dX8_addHousehold_60 : decode cX8_addHousehold 60 = .ok (.goto (-18), 3) := by decide +kernel
theorem dX8_addHousehold_63 : decode cX8_addHousehold 63 = .ok (.aload_n 0, 1) := by decide +kernel
theorem dX8_addHousehold_64 : decode cX8_addHousehold 64 = .ok (.iload_n 3, 1) := by decide +kernel
theorem dX8_addHousehold_65 : decode cX8_addHousehold 65 = .ok (.iconst 0, 1) := by decide +kernel
theorem dX8_addHousehold_66 : decode cX8_addHousehold 66 = .ok (.iload_n 1, 1) := by decide +kernel
theorem dX8_addHousehold_67 : decode cX8_addHousehold 67 = .ok (.invokevirtual 88, 3) := by decide +kernel
theorem dX8_addHousehold_70 : decode cX8_addHousehold 70 = .ok (.aload_n 0, 1) := by decide +kernel
theorem dX8_addHousehold_71 : decode cX8_addHousehold 71 = .ok (.iload_n 3, 1) := by decide +kernel
theorem dX8_addHousehold_72 : decode cX8_addHousehold 72 = .ok (.iconst 1, 1) := by decide +kernel
theorem dX8_addHousehold_73 : decode cX8_addHousehold 73 = .ok (.iload_n 2, 1) := by decide +kernel
theorem dX8_addHousehold_74 : decode cX8_addHousehold 74 = .ok (.invokevirtual 88, 3) := by decide +kernel
theorem dX8_addHousehold_77 : decode cX8_addHousehold 77 = .ok (.aload_n 0, 1) := by decide +kernel
theorem dX8_addHousehold_78 : decode cX8_addHousehold 78 = .ok (.iload_n 3, 1) := by decide +kernel
theorem dX8_addHousehold_79 : decode cX8_addHousehold 79 = .ok (.iconst 4, 1) := by decide +kernel
theorem dX8_addHousehold_80 : decode cX8_addHousehold 80 = .ok (.bipush (-5), 2) := by decide +kernel
theorem dX8_addHousehold_82 : decode cX8_addHousehold 82 = .ok (.invokevirtual 88, 3) := by decide +kernel
theorem dX8_addHousehold_85 : decode cX8_addHousehold 85 = .ok (.aload_n 0, 1) := by decide +kernel
theorem dX8_addHousehold_86 : decode cX8_addHousehold 86 = .ok (.getfield 7, 3) := by decide +kernel
theorem dX8_addHousehold_89 : decode cX8_addHousehold 89 = .ok (.iconst 1, 1) := by decide +kernel
theorem dX8_addHousehold_90 : decode cX8_addHousehold 90 = .ok (.dup2, 1) := by decide +kernel
theorem dX8_addHousehold_91 : decode cX8_addHousehold 91 = .ok (.iaload, 1) := by decide +kernel
theorem dX8_addHousehold_92 : decode cX8_addHousehold 92 = .ok (.iconst 1, 1) := by decide +kernel
theorem dX8_addHousehold_93 : decode cX8_addHousehold 93 = .ok (.iadd, 1) := by decide +kernel
theorem dX8_addHousehold_94 : decode cX8_addHousehold 94 = .ok (.iastore, 1) := by decide +kernel
theorem dX8_addHousehold_95 : decode cX8_addHousehold 95 = .ok (.iload_n 3, 1) := by decide +kernel
theorem dX8_addHousehold_96 : decode cX8_addHousehold 96 = .ok (.ireturn, 1) := by decide +kernel
set_option maxRecDepth 20000 in
theorem ggX8_change_X8_isHome : GoodIn wsX8_change wsX8_isHome := goodIn_r _ [5, 6, 7, 8, 4, 9, 30, 31, 32, 33, 34, 35, 36, 37, 38, 39, 40, 41, 42] (by decide +kernel) (by decide +kernel)
set_option maxRecDepth 20000 in
theorem gX8_change_X8_isHome : GoodIn wsX8_change (wsV RX8 92 RX8 yX8_isHome wsX8_isHome) := goodIn_app (goodIn_of _ (by decide +kernel)) ggX8_change_X8_isHome
set_option maxRecDepth 20000 in
theorem ggX8_change_X8_isNumber : GoodIn wsX8_change wsX8_isNumber := goodIn_r _ [12, 7, 8, 4, 9] (by decide +kernel) (by decide +kernel)
set_option maxRecDepth 20000 in
theorem gX8_change_X8_isNumber : GoodIn wsX8_change (va_wsS RX8 84 yX8_isNumber wsX8_isNumber) := goodIn_app (goodIn_of _ (by decide +kernel)) ggX8_change_X8_isNumber
set_option maxRecDepth 20000 in
theorem ggX8_change_X8_of : GoodIn wsX8_change wsX8_of := goodIn_r _ [16, 6, 30, 31, 32, 33, 34, 35, 36, 37, 38, 39, 40, 41, 42] (by decide +kernel) (by decide +kernel)
set_option maxRecDepth 20000 in
theorem gX8_change_X8_of : GoodIn wsX8_change (wsV RX8 59 RX8 yX8_of wsX8_of) := goodIn_app (goodIn_of _ (by decide +kernel)) ggX8_change_X8_of
set_option maxRecDepth 20000 in
theorem ggX8_change_X8_records : GoodIn wsX8_change wsX8_records := goodIn_r _ [20, 21, 22, 6, 23, 24, 4, 25, 30, 31, 32, 33, 34, 35, 36, 37, 38, 39, 40, 41, 42] (by decide +kernel) (by decide +kernel)
set_option maxRecDepth 20000 in
theorem gX8_change_X8_records : GoodIn wsX8_change (wsV RX8 52 RX8 yX8_records wsX8_records) := goodIn_app (goodIn_of _ (by decide +kernel)) ggX8_change_X8_records
set_option maxRecDepth 20000 in
theorem ggX8_change_X8_puts : GoodIn wsX8_change wsX8_puts := goodIn_r _ [29, 6, 30, 31, 32, 33, 34, 35, 36, 37, 38, 39, 40, 41, 42] (by decide +kernel) (by decide +kernel)
set_option maxRecDepth 20000 in
theorem gX8_change_X8_puts : GoodIn wsX8_change (wsV RX8 88 RX8 yX8_puts wsX8_puts) := goodIn_app (goodIn_of _ (by decide +kernel)) ggX8_change_X8_puts
theorem dX8_change_0 : decode cX8_change 0 = .ok (.aload_n 0, 1) := by decide +kernel
theorem dX8_change_1 : decode cX8_change 1 = .ok (.iload_n 1, 1) := by decide +kernel
theorem dX8_change_2 : decode cX8_change 2 = .ok (.invokevirtual 92, 3) := by decide +kernel
theorem dX8_change_5 : decode cX8_change 5 = .ok (.ifCond .ne 5, 3) := by decide +kernel
theorem dX8_change_8 : decode cX8_change 8 = .ok (.iconst (-1), 1) := by decide +kernel
theorem dX8_change_9 : decode cX8_change 9 = .ok (.ireturn, 1) := by decide +kernel
theorem dX8_change_10 : decode cX8_change 10 = .ok (.iload_n 2, 1) := by decide +kernel
theorem dX8_change_11 : decode cX8_change 11 = .ok (.iload_n 3, 1) := by decide +kernel
theorem dX8_change_12 : decode cX8_change 12 = .ok (.invokestatic 84, 3) := by decide +kernel
theorem dX8_change_15 : decode cX8_change 15 = .ok (.ifCond .ne 6, 3) := by decide +kernel
theorem dX8_change_18 : decode cX8_change 18 = .ok (.bipush (-2), 2) := by decide +kernel
theorem dX8_change_20 : decode cX8_change 20 = .ok (.ireturn, 1) := by decide +kernel
theorem dX8_change_21 : decode cX8_change 21 = .ok (.aload_n 0, 1) := by decide +kernel
theorem dX8_change_22 : decode cX8_change 22 = .ok (.iload_n 1, 1) := by decide +kernel
theorem dX8_change_23 : decode cX8_change 23 = .ok (.iload_n 2, 1) := by decide +kernel
theorem dX8_change_24 : decode cX8_change 24 = .ok (.ifCond .eq 7, 3) := by decide +kernel
theorem dX8_change_27 : decode cX8_change 27 = .ok (.iconst 1, 1) := by decide +kernel
theorem dX8_change_28 : decode cX8_change 28 = .ok (.goto 4, 3) := by decide +kernel
theorem dX8_change_31 : decode cX8_change 31 = .ok (.iconst 0, 1) := by decide +kernel
theorem dX8_change_32 : decode cX8_change 32 = .ok (.invokevirtual 59, 3) := by decide +kernel
theorem dX8_change_35 : decode cX8_change 35 = .ok (.istore 4, 2) := by decide +kernel
theorem dX8_change_37 : decode cX8_change 37 = .ok (.iload 4, 2) := by decide +kernel
theorem dX8_change_39 : decode cX8_change 39 = .ok (.iload_n 3, 1) := by decide +kernel
theorem dX8_change_40 : decode cX8_change 40 = .ok (.if_icmp .ne 6, 3) := by decide +kernel
theorem dX8_change_43 : decode cX8_change 43 = .ok (.bipush (-5), 2) := by decide +kernel
theorem dX8_change_45 : decode cX8_change 45 = .ok (.ireturn, 1) := by decide +kernel
theorem dX8_change_46 : decode cX8_change 46 = .ok (.aload_n 0, 1) := by decide +kernel
theorem dX8_change_47 : decode cX8_change 47 = .ok (.invokevirtual 52, 3) := by decide +kernel
theorem dX8_change_50 : decode cX8_change 50 = .ok (.aload_n 0, 1) := by decide +kernel
theorem dX8_change_51 : decode cX8_change 51 = .ok (.iload_n 1, 1) := by decide +kernel
theorem dX8_change_52 : decode cX8_change 52 = .ok (.iload_n 2, 1) := by decide +kernel
theorem dX8_change_53 : decode cX8_change 53 = .ok (.ifCond .eq 7, 3) := by decide +kernel
theorem dX8_change_56 : decode cX8_change 56 = .ok (.iconst 1, 1) := by decide +kernel
theorem dX8_change_57 : decode cX8_change 57 = .ok (.goto 4, 3) := by decide +kernel
theorem dX8_change_60 : decode cX8_change 60 = .ok (.iconst 0, 1) := by decide +kernel
theorem dX8_change_61 : decode cX8_change 61 = .ok (.iload_n 3, 1) := by decide +kernel
theorem dX8_change_62 : decode cX8_change 62 = .ok (.invokevirtual 88, 3) := by decide +kernel
theorem dX8_change_65 : decode cX8_change 65 = .ok (.iload 4, 2) := by decide +kernel
theorem dX8_change_67 : decode cX8_change 67 = .ok (.ireturn, 1) := by decide +kernel
set_option maxRecDepth 20000 in
theorem ggX8_wish_X8_isHome : GoodIn wsX8_wish wsX8_isHome := goodIn_r _ [5, 6, 7, 8, 4, 9, 35, 36, 37, 38, 39, 40, 41, 42, 43, 44, 45, 46, 47] (by decide +kernel) (by decide +kernel)
set_option maxRecDepth 20000 in
theorem gX8_wish_X8_isHome : GoodIn wsX8_wish (wsV RX8 92 RX8 yX8_isHome wsX8_isHome) := goodIn_app (goodIn_of _ (by decide +kernel)) ggX8_wish_X8_isHome
set_option maxRecDepth 20000 in
theorem ggX8_wish_X8_isFlat : GoodIn wsX8_wish wsX8_isFlat := goodIn_r _ [13, 6, 7, 8, 4, 9, 35, 36, 37, 38, 39, 40, 41, 42, 43, 44, 45, 46, 47] (by decide +kernel) (by decide +kernel)
set_option maxRecDepth 20000 in
theorem gX8_wish_X8_isFlat : GoodIn wsX8_wish (wsV RX8 95 RX8 yX8_isFlat wsX8_isFlat) := goodIn_app (goodIn_of _ (by decide +kernel)) ggX8_wish_X8_isFlat
set_option maxRecDepth 20000 in
theorem ggX8_wish_X8_of : GoodIn wsX8_wish wsX8_of := goodIn_r _ [17, 6, 35, 36, 37, 38, 39, 40, 41, 42, 43, 44, 45, 46, 47] (by decide +kernel) (by decide +kernel)
set_option maxRecDepth 20000 in
theorem gX8_wish_X8_of : GoodIn wsX8_wish (wsV RX8 59 RX8 yX8_of wsX8_of) := goodIn_app (goodIn_of _ (by decide +kernel)) ggX8_wish_X8_of
set_option maxRecDepth 20000 in
theorem ggX8_wish_X8_placeOn : GoodIn wsX8_wish wsX8_placeOn := goodIn_r _ [21, 14, 15, 16, 4, 17, 6, 35, 36, 37, 38, 39, 40, 41, 42, 43, 44, 45, 46, 47] (by decide +kernel) (by decide +kernel)
set_option maxRecDepth 20000 in
theorem gX8_wish_X8_placeOn : GoodIn wsX8_wish (wsV RX8 70 RX8 yX8_placeOn wsX8_placeOn) := goodIn_app (goodIn_of _ (by decide +kernel)) ggX8_wish_X8_placeOn
set_option maxRecDepth 20000 in
theorem ggX8_wish_X8_records : GoodIn wsX8_wish wsX8_records := goodIn_r _ [25, 26, 27, 6, 28, 29, 4, 30, 35, 36, 37, 38, 39, 40, 41, 42, 43, 44, 45, 46, 47] (by decide +kernel) (by decide +kernel)
set_option maxRecDepth 20000 in
theorem gX8_wish_X8_records : GoodIn wsX8_wish (wsV RX8 52 RX8 yX8_records wsX8_records) := goodIn_app (goodIn_of _ (by decide +kernel)) ggX8_wish_X8_records
set_option maxRecDepth 20000 in
theorem ggX8_wish_X8_puts : GoodIn wsX8_wish wsX8_puts := goodIn_r _ [34, 6, 35, 36, 37, 38, 39, 40, 41, 42, 43, 44, 45, 46, 47] (by decide +kernel) (by decide +kernel)
set_option maxRecDepth 20000 in
theorem gX8_wish_X8_puts : GoodIn wsX8_wish (wsV RX8 88 RX8 yX8_puts wsX8_puts) := goodIn_app (goodIn_of _ (by decide +kernel)) ggX8_wish_X8_puts
theorem dX8_wish_0 : decode cX8_wish 0 = .ok (.aload_n 0, 1) := by decide +kernel
theorem dX8_wish_1 : decode cX8_wish 1 = .ok (.iload_n 1, 1) := by decide +kernel
theorem dX8_wish_2 : decode cX8_wish 2 = .ok (.invokevirtual 92, 3) := by decide +kernel
theorem dX8_wish_5 : decode cX8_wish 5 = .ok (.ifCond .eq 11, 3) := by decide +kernel
theorem dX8_wish_8 : decode cX8_wish 8 = .ok (.aload_n 0, 1) := by decide +kernel
theorem dX8_wish_9 : decode cX8_wish 9 = .ok (.iload_n 2, 1) := by decide +kernel
theorem dX8_wish_10 : decode cX8_wish 10 = .ok (.invokevirtual 95, 3) := by decide +kernel
theorem dX8_wish_13 : decode cX8_wish 13 = .ok (.ifCond .ne 5, 3) := by decide +kernel
theorem dX8_wish_16 : decode cX8_wish 16 = .ok (.iconst (-1), 1) := by decide +kernel
theorem dX8_wish_17 : decode cX8_wish 17 = .ok (.ireturn, 1) := by decide +kernel
theorem dX8_wish_18 : decode cX8_wish 18 = .ok (.aload_n 0, 1) := by decide +kernel
theorem dX8_wish_19 : decode cX8_wish 19 = .ok (.iload_n 1, 1) := by decide +kernel
theorem dX8_wish_20 : decode cX8_wish 20 = .ok (.bipush 7, 2) := by decide +kernel
theorem dX8_wish_22 : decode cX8_wish 22 = .ok (.invokevirtual 59, 3) := by decide +kernel
theorem dX8_wish_25 : decode cX8_wish 25 = .ok (.istore_n 3, 1) := by decide +kernel
theorem dX8_wish_26 : decode cX8_wish 26 = .ok (.iload_n 3, 1) := by decide +kernel
theorem dX8_wish_27 : decode cX8_wish 27 = .ok (.bipush 6, 2) := by decide +kernel
theorem dX8_wish_29 : decode cX8_wish 29 = .ok (.if_icmp .ne 6, 3) := by decide +kernel
theorem dX8_wish_32 : decode cX8_wish 32 = .ok (.bipush (-3), 2) := by decide +kernel
theorem dX8_wish_34 : decode cX8_wish 34 = .ok (.ireturn, 1) := by decide +kernel
theorem dX8_wish_35 : decode cX8_wish 35 = .ok (.aload_n 0, 1) := by decide +kernel
theorem dX8_wish_36 : decode cX8_wish 36 = .ok (.iload_n 1, 1) := by decide +kernel
theorem dX8_wish_37 : decode cX8_wish 37 = .ok (.iload_n 2, 1) := by decide +kernel
theorem dX8_wish_38 : decode cX8_wish 38 = .ok (.invokevirtual 70, 3) := by decide +kernel
theorem dX8_wish_41 : decode cX8_wish 41 = .ok (.bipush (-5), 2) := by decide +kernel
theorem dX8_wish_43 : decode cX8_wish 43 = .ok (.if_icmp .eq 6, 3) := by decide +kernel
theorem dX8_wish_46 : decode cX8_wish 46 = .ok (.bipush (-4), 2) := by decide +kernel
theorem dX8_wish_48 : decode cX8_wish 48 = .ok (.ireturn, 1) := by decide +kernel
theorem dX8_wish_49 : decode cX8_wish 49 = .ok (.aload_n 0, 1) := by decide +kernel
theorem dX8_wish_50 : decode cX8_wish 50 = .ok (.invokevirtual 52, 3) := by decide +kernel
theorem dX8_wish_53 : decode cX8_wish 53 = .ok (.aload_n 0, 1) := by decide +kernel
theorem dX8_wish_54 : decode cX8_wish 54 = .ok (.iload_n 1, 1) := by decide +kernel
theorem dX8_wish_55 : decode cX8_wish 55 = .ok (.bipush 8, 2) := by decide +kernel
theorem dX8_wish_57 : decode cX8_wish 57 = .ok (.iload_n 3, 1) := by decide +kernel
theorem dX8_wish_58 : decode cX8_wish 58 = .ok (.iadd, 1) := by decide +kernel
theorem dX8_wish_59 : decode cX8_wish 59 = .ok (.iload_n 2, 1) := by decide +kernel
theorem dX8_wish_60 : decode cX8_wish 60 = .ok (.invokevirtual 88, 3) := by decide +kernel
theorem dX8_wish_63 : decode cX8_wish 63 = .ok (.aload_n 0, 1) := by decide +kernel
theorem dX8_wish_64 : decode cX8_wish 64 = .ok (.iload_n 1, 1) := by decide +kernel
theorem dX8_wish_65 : decode cX8_wish 65 = .ok (.bipush 7, 2) := by decide +kernel
theorem dX8_wish_67 : decode cX8_wish 67 = .ok (.iload_n 3, 1) := by decide +kernel
theorem dX8_wish_68 : decode cX8_wish 68 = .ok (.iconst 1, 1) := by decide +kernel
theorem dX8_wish_69 : decode cX8_wish 69 = .ok (.iadd, 1) := by decide +kernel
theorem dX8_wish_70 : decode cX8_wish 70 = .ok (.invokevirtual 88, 3) := by decide +kernel
theorem dX8_wish_73 : decode cX8_wish 73 = .ok (.iload_n 3, 1) := by decide +kernel
theorem dX8_wish_74 : decode cX8_wish 74 = .ok (.iconst 1, 1) := by decide +kernel
theorem dX8_wish_75 : decode cX8_wish 75 = .ok (.iadd, 1) := by decide +kernel
theorem dX8_wish_76 : decode cX8_wish 76 = .ok (.ireturn, 1) := by decide +kernel
set_option maxRecDepth 20000 in
theorem ggX8_takesOff_X8_of : GoodIn wsX8_takesOff wsX8_of := goodIn_r _ [5, 6, 11, 12, 13, 14, 15, 16, 17, 18, 19, 20, 21, 22, 23] (by decide +kernel) (by decide +kernel)
set_option maxRecDepth 20000 in
theorem gX8_takesOff_X8_of : GoodIn wsX8_takesOff (wsV RX8 59 RX8 yX8_of wsX8_of) := goodIn_app (goodIn_of _ (by decide +kernel)) ggX8_takesOff_X8_of
set_option maxRecDepth 20000 in
theorem ggX8_takesOff_X8_puts : GoodIn wsX8_takesOff wsX8_puts := goodIn_r _ [10, 6, 11, 12, 13, 14, 15, 16, 17, 18, 19, 20, 21, 22, 23] (by decide +kernel) (by decide +kernel)
set_option maxRecDepth 20000 in
theorem gX8_takesOff_X8_puts : GoodIn wsX8_takesOff (wsV RX8 88 RX8 yX8_puts wsX8_puts) := goodIn_app (goodIn_of _ (by decide +kernel)) ggX8_takesOff_X8_puts
theorem dX8_takesOff_0 : decode cX8_takesOff 0 = .ok (.aload_n 0, 1) := by decide +kernel
theorem dX8_takesOff_1 : decode cX8_takesOff 1 = .ok (.iload_n 1, 1) := by decide +kernel
theorem dX8_takesOff_2 : decode cX8_takesOff 2 = .ok (.bipush 7, 2) := by decide +kernel
theorem dX8_takesOff_4 : decode cX8_takesOff 4 = .ok (.invokevirtual 59, 3) := by decide +kernel
theorem dX8_takesOff_7 : decode cX8_takesOff 7 = .ok (.iconst 1, 1) := by decide +kernel
theorem dX8_takesOff_8 : decode cX8_takesOff 8 = .ok (.isub, 1) := by decide +kernel
theorem dX8_takesOff_9 : decode cX8_takesOff 9 = .ok (.istore_n 3, 1) := by decide +kernel
theorem dX8_takesOff_10 : decode cX8_takesOff 10 = .ok (.iload_n 2, 1) := by decide +kernel
theorem dX8_takesOff_11 : decode cX8_takesOff 11 = .ok (.istore 4, 2) := by decide +kernel
theorem dX8_takesOff_13 : decode cX8_takesOff 13 = .ok (.iload 4, 2) := by decide +kernel
theorem dX8_takesOff_15 : decode cX8_takesOff 15 = .ok (.iload_n 3, 1) := by decide +kernel
theorem dX8_takesOff_16 : decode cX8_takesOff 16 = .ok (.if_icmp .ge 31, 3) := by decide +kernel
theorem dX8_takesOff_19 : decode cX8_takesOff 19 = .ok (.aload_n 0, 1) := by decide +kernel
theorem dX8_takesOff_20 : decode cX8_takesOff 20 = .ok (.iload_n 1, 1) := by decide +kernel
theorem dX8_takesOff_21 : decode cX8_takesOff 21 = .ok (.bipush 8, 2) := by decide +kernel
theorem dX8_takesOff_23 : decode cX8_takesOff 23 = .ok (.iload 4, 2) := by decide +kernel
theorem dX8_takesOff_25 : decode cX8_takesOff 25 = .ok (.iadd, 1) := by decide +kernel
theorem dX8_takesOff_26 : decode cX8_takesOff 26 = .ok (.aload_n 0, 1) := by decide +kernel
theorem dX8_takesOff_27 : decode cX8_takesOff 27 = .ok (.iload_n 1, 1) := by decide +kernel
theorem dX8_takesOff_28 : decode cX8_takesOff 28 = .ok (.bipush 8, 2) := by decide +kernel
theorem dX8_takesOff_30 : decode cX8_takesOff 30 = .ok (.iload 4, 2) := by decide +kernel
theorem dX8_takesOff_32 : decode cX8_takesOff 32 = .ok (.iadd, 1) := by decide +kernel
theorem dX8_takesOff_33 : decode cX8_takesOff 33 = .ok (.iconst 1, 1) := by decide +kernel
theorem dX8_takesOff_34 : decode cX8_takesOff 34 = .ok (.iadd, 1) := by decide +kernel
theorem dX8_takesOff_35 : decode cX8_takesOff 35 = .ok (.invokevirtual 59, 3) := by decide +kernel
theorem dX8_takesOff_38 : decode cX8_takesOff 38 = .ok (.invokevirtual 88, 3) := by decide +kernel
theorem dX8_takesOff_41 : decode cX8_takesOff 41 = .ok (.iinc 4 1, 3) := by decide +kernel
theorem dX8_takesOff_44 : decode cX8_takesOff 44 = .ok (.goto (-31), 3) := by decide +kernel
theorem dX8_takesOff_47 : decode cX8_takesOff 47 = .ok (.aload_n 0, 1) := by decide +kernel
theorem dX8_takesOff_48 : decode cX8_takesOff 48 = .ok (.iload_n 1, 1) := by decide +kernel
theorem dX8_takesOff_49 : decode cX8_takesOff 49 = .ok (.bipush 7, 2) := by decide +kernel
theorem dX8_takesOff_51 : decode cX8_takesOff 51 = .ok (.iload_n 3, 1) := by decide +kernel
theorem dX8_takesOff_52 : decode cX8_takesOff 52 = .ok (.invokevirtual 88, 3) := by decide +kernel
theorem dX8_takesOff_55 : decode cX8_takesOff 55 = .ok (.return_, 1) := by decide +kernel
set_option maxRecDepth 20000 in
theorem ggX8_unwish_X8_isHome : GoodIn wsX8_unwish wsX8_isHome := goodIn_r _ [5, 6, 7, 8, 4, 9, 39, 40, 41, 42, 43, 44, 45, 46, 47, 48, 49, 50, 51] (by decide +kernel) (by decide +kernel)
set_option maxRecDepth 20000 in
theorem gX8_unwish_X8_isHome : GoodIn wsX8_unwish (wsV RX8 92 RX8 yX8_isHome wsX8_isHome) := goodIn_app (goodIn_of _ (by decide +kernel)) ggX8_unwish_X8_isHome
set_option maxRecDepth 20000 in
theorem ggX8_unwish_X8_isFlat : GoodIn wsX8_unwish wsX8_isFlat := goodIn_r _ [13, 6, 7, 8, 4, 9, 39, 40, 41, 42, 43, 44, 45, 46, 47, 48, 49, 50, 51] (by decide +kernel) (by decide +kernel)
set_option maxRecDepth 20000 in
theorem gX8_unwish_X8_isFlat : GoodIn wsX8_unwish (wsV RX8 95 RX8 yX8_isFlat wsX8_isFlat) := goodIn_app (goodIn_of _ (by decide +kernel)) ggX8_unwish_X8_isFlat
set_option maxRecDepth 20000 in
theorem ggX8_unwish_X8_placeOn : GoodIn wsX8_unwish wsX8_placeOn := goodIn_r _ [17, 18, 19, 20, 4, 21, 6, 39, 40, 41, 42, 43, 44, 45, 46, 47, 48, 49, 50, 51] (by decide +kernel) (by decide +kernel)
set_option maxRecDepth 20000 in
theorem gX8_unwish_X8_placeOn : GoodIn wsX8_unwish (wsV RX8 70 RX8 yX8_placeOn wsX8_placeOn) := goodIn_app (goodIn_of _ (by decide +kernel)) ggX8_unwish_X8_placeOn
set_option maxRecDepth 20000 in
theorem ggX8_unwish_X8_records : GoodIn wsX8_unwish wsX8_records := goodIn_r _ [25, 26, 27, 6, 28, 29, 4, 30, 39, 40, 41, 42, 43, 44, 45, 46, 47, 48, 49, 50, 51] (by decide +kernel) (by decide +kernel)
set_option maxRecDepth 20000 in
theorem gX8_unwish_X8_records : GoodIn wsX8_unwish (wsV RX8 52 RX8 yX8_records wsX8_records) := goodIn_app (goodIn_of _ (by decide +kernel)) ggX8_unwish_X8_records
set_option maxRecDepth 20000 in
theorem ggX8_unwish_X8_takesOff : GoodIn wsX8_unwish wsX8_takesOff := goodIn_r _ [34, 18, 19, 20, 4, 21, 6, 35, 36, 37, 38, 39, 40, 41, 42, 43, 44, 45, 46, 47, 48, 49, 50, 51] (by decide +kernel) (by decide +kernel)
set_option maxRecDepth 20000 in
theorem gX8_unwish_X8_takesOff : GoodIn wsX8_unwish (wsV RX8 98 RX8 yX8_takesOff wsX8_takesOff) := goodIn_app (goodIn_of _ (by decide +kernel)) ggX8_unwish_X8_takesOff
theorem dX8_unwish_0 : decode cX8_unwish 0 = .ok (.aload_n 0, 1) := by decide +kernel
theorem dX8_unwish_1 : decode cX8_unwish 1 = .ok (.iload_n 1, 1) := by decide +kernel
theorem dX8_unwish_2 : decode cX8_unwish 2 = .ok (.invokevirtual 92, 3) := by decide +kernel
theorem dX8_unwish_5 : decode cX8_unwish 5 = .ok (.ifCond .eq 11, 3) := by decide +kernel
theorem dX8_unwish_8 : decode cX8_unwish 8 = .ok (.aload_n 0, 1) := by decide +kernel
theorem dX8_unwish_9 : decode cX8_unwish 9 = .ok (.iload_n 2, 1) := by decide +kernel
theorem dX8_unwish_10 : decode cX8_unwish 10 = .ok (.invokevirtual 95, 3) := by decide +kernel
theorem dX8_unwish_13 : decode cX8_unwish 13 = .ok (.ifCond .ne 5, 3) := by decide +kernel
theorem dX8_unwish_16 : decode cX8_unwish 16 = .ok (.iconst (-1), 1) := by decide +kernel
theorem dX8_unwish_17 : decode cX8_unwish 17 = .ok (.ireturn, 1) := by decide +kernel
theorem dX8_unwish_18 : decode cX8_unwish 18 = .ok (.aload_n 0, 1) := by decide +kernel
theorem dX8_unwish_19 : decode cX8_unwish 19 = .ok (.iload_n 1, 1) := by decide +kernel
theorem dX8_unwish_20 : decode cX8_unwish 20 = .ok (.iload_n 2, 1) := by decide +kernel
theorem dX8_unwish_21 : decode cX8_unwish 21 = .ok (.invokevirtual 70, 3) := by decide +kernel
theorem dX8_unwish_24 : decode cX8_unwish 24 = .ok (.istore_n 3, 1) := by decide +kernel
theorem dX8_unwish_25 : decode cX8_unwish 25 = .ok (.iload_n 3, 1) := by decide +kernel
theorem dX8_unwish_26 : decode cX8_unwish 26 = .ok (.bipush (-5), 2) := by decide +kernel
theorem dX8_unwish_28 : decode cX8_unwish 28 = .ok (.if_icmp .ne 6, 3) := by decide +kernel
theorem dX8_unwish_31 : decode cX8_unwish 31 = .ok (.bipush (-5), 2) := by decide +kernel
theorem dX8_unwish_33 : decode cX8_unwish 33 = .ok (.ireturn, 1) := by decide +kernel
theorem dX8_unwish_34 : decode cX8_unwish 34 = .ok (.aload_n 0, 1) := by decide +kernel
theorem dX8_unwish_35 : decode cX8_unwish 35 = .ok (.invokevirtual 52, 3) := by decide +kernel
theorem dX8_unwish_38 : decode cX8_unwish 38 = .ok (.aload_n 0, 1) := by decide +kernel
theorem dX8_unwish_39 : decode cX8_unwish 39 = .ok (.iload_n 1, 1) := by decide +kernel
theorem dX8_unwish_40 : decode cX8_unwish 40 = .ok (.iload_n 3, 1) := by decide +kernel
theorem dX8_unwish_41 : decode cX8_unwish 41 = .ok (.invokevirtual 98, 3) := by decide +kernel
theorem dX8_unwish_44 : decode cX8_unwish 44 = .ok (.iload_n 3, 1) := by decide +kernel
theorem dX8_unwish_45 : decode cX8_unwish 45 = .ok (.ireturn, 1) := by decide +kernel
set_option maxRecDepth 20000 in
theorem ggX8_draw_X8_isHome : GoodIn wsX8_draw wsX8_isHome := goodIn_r _ [6, 1, 7, 8, 5, 9, 35, 36, 37, 38, 39, 40, 41, 42, 43, 44, 45, 46, 47] (by decide +kernel) (by decide +kernel)
set_option maxRecDepth 20000 in
theorem gX8_draw_X8_isHome : GoodIn wsX8_draw (wsV RX8 92 RX8 yX8_isHome wsX8_isHome) := goodIn_app (goodIn_of _ (by decide +kernel)) ggX8_draw_X8_isHome
set_option maxRecDepth 20000 in
theorem ggX8_draw_X8_in : GoodIn wsX8_draw wsX8_in := goodIn_r _ [9] (by decide +kernel) (by decide +kernel)
set_option maxRecDepth 20000 in
theorem gX8_draw_X8_in : GoodIn wsX8_draw (va_wsS RX8 55 yX8_in wsX8_in) := goodIn_app (goodIn_of _ (by decide +kernel)) ggX8_draw_X8_in
set_option maxRecDepth 20000 in
theorem ggX8_draw_X8_of : GoodIn wsX8_draw wsX8_of := goodIn_r _ [13, 1, 35, 36, 37, 38, 39, 40, 41, 42, 43, 44, 45, 46, 47] (by decide +kernel) (by decide +kernel)
set_option maxRecDepth 20000 in
theorem gX8_draw_X8_of : GoodIn wsX8_draw (wsV RX8 59 RX8 yX8_of wsX8_of) := goodIn_app (goodIn_of _ (by decide +kernel)) ggX8_draw_X8_of
set_option maxRecDepth 20000 in
theorem ggX8_draw_X8_records : GoodIn wsX8_draw wsX8_records := goodIn_r _ [17, 18, 19, 1, 20, 21, 5, 22, 35, 36, 37, 38, 39, 40, 41, 42, 43, 44, 45, 46, 47] (by decide +kernel) (by decide +kernel)
set_option maxRecDepth 20000 in
theorem gX8_draw_X8_records : GoodIn wsX8_draw (wsV RX8 52 RX8 yX8_records wsX8_records) := goodIn_app (goodIn_of _ (by decide +kernel)) ggX8_draw_X8_records
set_option maxRecDepth 20000 in
theorem ggX8_draw_X8_puts : GoodIn wsX8_draw wsX8_puts := goodIn_r _ [26, 1, 35, 36, 37, 38, 39, 40, 41, 42, 43, 44, 45, 46, 47] (by decide +kernel) (by decide +kernel)
set_option maxRecDepth 20000 in
theorem gX8_draw_X8_puts : GoodIn wsX8_draw (wsV RX8 88 RX8 yX8_puts wsX8_puts) := goodIn_app (goodIn_of _ (by decide +kernel)) ggX8_draw_X8_puts
set_option maxRecDepth 20000 in
theorem ggX8_draw_X8_drawn : GoodIn wsX8_draw wsX8_drawn := goodIn_r _ [30, 1, 31, 32, 33, 5, 34, 10, 11, 12, 13, 35, 36, 37, 38, 39, 40, 41, 42, 43, 44, 45, 46, 47] (by decide +kernel) (by decide +kernel)
set_option maxRecDepth 20000 in
theorem gX8_draw_X8_drawn : GoodIn wsX8_draw (wsV RX8 102 RX8 yX8_drawn wsX8_drawn) := goodIn_app (goodIn_of _ (by decide +kernel)) ggX8_draw_X8_drawn
theorem dX8_draw_0 : decode cX8_draw 0 = .ok (.aload_n 0, 1) := by decide +kernel
theorem dX8_draw_1 : decode cX8_draw 1 = .ok (.iload_n 1, 1) := by decide +kernel
theorem dX8_draw_2 : decode cX8_draw 2 = .ok (.invokevirtual 92, 3) := by decide +kernel
theorem dX8_draw_5 : decode cX8_draw 5 = .ok (.ifCond .ne 5, 3) := by decide +kernel
theorem dX8_draw_8 : decode cX8_draw 8 = .ok (.iconst (-1), 1) := by decide +kernel
theorem dX8_draw_9 : decode cX8_draw 9 = .ok (.ireturn, 1) := by decide +kernel
theorem dX8_draw_10 : decode cX8_draw 10 = .ok (.iload_n 2, 1) := by decide +kernel
theorem dX8_draw_11 : decode cX8_draw 11 = .ok (.iconst 1, 1) := by decide +kernel
theorem dX8_draw_12 : decode cX8_draw 12 = .ok (.sipush 999, 3) := by decide +kernel
theorem dX8_draw_15 : decode cX8_draw 15 = .ok (.invokestatic 55, 3) := by decide +kernel
theorem dX8_draw_18 : decode cX8_draw 18 = .ok (.ifCond .ne 6, 3) := by decide +kernel
theorem dX8_draw_21 : decode cX8_draw 21 = .ok (.bipush (-2), 2) := by decide +kernel
theorem dX8_draw_23 : decode cX8_draw 23 = .ok (.ireturn, 1) := by decide +kernel
theorem dX8_draw_24 : decode cX8_draw 24 = .ok (.iconst 0, 1) := by decide +kernel
theorem dX8_draw_25 : decode cX8_draw 25 = .ok (.istore_n 3, 1) := by decide +kernel
theorem dX8_draw_26 : decode cX8_draw 26 = .ok (.iload_n 3, 1) := by decide +kernel
theorem dX8_draw_27 : decode cX8_draw 27 = .ok (.aload_n 0, 1) := by decide +kernel
theorem dX8_draw_28 : decode cX8_draw 28 = .ok (.getfield 7, 3) := by decide +kernel
theorem dX8_draw_31 : decode cX8_draw 31 = .ok (.iconst 1, 1) := by decide +kernel
theorem dX8_draw_32 : decode cX8_draw 32 = .ok (.iaload, 1) := by decide +kernel
theorem dX8_draw_33 : decode cX8_draw 33 = .ok (.if_icmp .ge 27, 3) := by decide +kernel
theorem dX8_draw_36 : decode cX8_draw 36 = .ok (.iload_n 3, 1) := by decide +kernel
theorem dX8_draw_37 : decode cX8_draw 37 = .ok (.iload_n 1, 1) := by decide +kernel
theorem dX8_draw_38 : decode cX8_draw 38 = .ok (.if_icmp .eq 16, 3) := by decide +kernel
theorem dX8_draw_41 : decode cX8_draw 41 = .ok (.aload_n 0, 1) := by decide +kernel
theorem dX8_draw_42 : decode cX8_draw 42 = .ok (.iload_n 3, 1) := by decide +kernel
theorem dX8_draw_43 : decode cX8_draw 43 = .ok (.iconst 2, 1) := by decide +kernel
theorem dX8_draw_44 : decode cX8_draw 44 = .ok (.invokevirtual 59, 3) := by decide +kernel
theorem dX8_draw_47 : decode cX8_draw 47 = .ok (.iload_n 2, 1) := by decide +kernel
theorem dX8_draw_48 : decode cX8_draw 48 = .ok (.if_icmp .ne 6, 3) := by decide +kernel
theorem dX8_draw_51 : decode cX8_draw 51 = .ok (.bipush (-4), 2) := by decide +kernel
theorem dX8_draw_53 : decode cX8_draw 53 = .ok (.ireturn, 1) := by decide +kernel
theorem dX8_draw_54 : decode cX8_draw 54 = .ok (.iinc 3 1, 3) := by decide +kernel
theorem dX8_draw_57 : decode cX8_draw 57 = .ok (.goto (-31), 3) := by decide +kernel
theorem dX8_draw_60 : decode cX8_draw 60 = .ok (.aload_n 0, 1) := by decide +kernel
theorem dX8_draw_61 : decode cX8_draw 61 = .ok (.iload_n 1, 1) := by decide +kernel
theorem dX8_draw_62 : decode cX8_draw 62 = .ok (.iconst 2, 1) := by decide +kernel
theorem dX8_draw_63 : decode cX8_draw 63 = .ok (.invokevirtual 59, 3) := by decide +kernel
theorem dX8_draw_66 : decode cX8_draw 66 = .ok (.iload_n 2, 1) := by decide +kernel
theorem dX8_draw_67 : decode cX8_draw 67 = .ok (.if_icmp .ne 6, 3) := by decide +kernel
theorem dX8_draw_70 : decode cX8_draw 70 = .ok (.bipush (-5), 2) := by decide +kernel
theorem dX8_draw_72 : decode cX8_draw 72 = .ok (.ireturn, 1) := by decide +kernel
theorem dX8_draw_73 : decode cX8_draw 73 = .ok (.aload_n 0, 1) := by decide +kernel
theorem dX8_draw_74 : decode cX8_draw 74 = .ok (.invokevirtual 52, 3) := by decide +kernel
theorem dX8_draw_77 : decode cX8_draw 77 = .ok (.aload_n 0, 1) := by decide +kernel
theorem dX8_draw_78 : decode cX8_draw 78 = .ok (.iload_n 1, 1) := by decide +kernel
theorem dX8_draw_79 : decode cX8_draw 79 = .ok (.iconst 2, 1) := by decide +kernel
theorem dX8_draw_80 : decode cX8_draw 80 = .ok (.iload_n 2, 1) := by decide +kernel
theorem dX8_draw_81 : decode cX8_draw 81 = .ok (.invokevirtual 88, 3) := by decide +kernel
theorem dX8_draw_84 : decode cX8_draw 84 = .ok (.aload_n 0, 1) := by decide +kernel
theorem dX8_draw_85 : decode cX8_draw 85 = .ok (.invokevirtual 102, 3) := by decide +kernel
theorem dX8_draw_88 : decode cX8_draw 88 = .ok (.ireturn, 1) := by decide +kernel
set_option maxRecDepth 20000 in
theorem ggX8_firstOf_X8_of : GoodIn wsX8_firstOf wsX8_of := goodIn_r _ [5, 6, 19, 20, 21, 22, 23, 24, 25, 26, 27, 28, 29, 30, 31] (by decide +kernel) (by decide +kernel)
set_option maxRecDepth 20000 in
theorem gX8_firstOf_X8_of : GoodIn wsX8_firstOf (wsV RX8 59 RX8 yX8_of wsX8_of) := goodIn_app (goodIn_of _ (by decide +kernel)) ggX8_firstOf_X8_of
set_option maxRecDepth 20000 in
theorem ggX8_firstOf_X8_isEligible : GoodIn wsX8_firstOf wsX8_isEligible := goodIn_r _ [10, 1, 2, 3, 4, 5, 6, 11, 12, 13, 14, 15, 16, 17, 18, 19, 20, 21, 22, 23, 24, 25, 26, 27, 28, 29, 30, 31] (by decide +kernel) (by decide +kernel)
set_option maxRecDepth 20000 in
theorem gX8_firstOf_X8_isEligible : GoodIn wsX8_firstOf (wsV RX8 105 RX8 yX8_isEligible wsX8_isEligible) := goodIn_app (goodIn_of _ (by decide +kernel)) ggX8_firstOf_X8_isEligible
theorem dX8_firstOf_0 : decode cX8_firstOf 0 = .ok (.iconst 0, 1) := by decide +kernel
theorem dX8_firstOf_1 : decode cX8_firstOf 1 = .ok (.istore_n 3, 1) := by decide +kernel
theorem dX8_firstOf_2 : decode cX8_firstOf 2 = .ok (.iload_n 3, 1) := by decide +kernel
theorem dX8_firstOf_3 : decode cX8_firstOf 3 = .ok (.aload_n 0, 1) := by decide +kernel
theorem dX8_firstOf_4 : decode cX8_firstOf 4 = .ok (.iload_n 1, 1) := by decide +kernel
theorem dX8_firstOf_5 : decode cX8_firstOf 5 = .ok (.bipush 7, 2) := by decide +kernel
theorem dX8_firstOf_7 : decode cX8_firstOf 7 = .ok (.invokevirtual 59, 3) := by decide +kernel
theorem dX8_firstOf_10 : decode cX8_firstOf 10 = .ok (.if_icmp .ge 42, 3) := by decide +kernel
theorem dX8_firstOf_13 : decode cX8_firstOf 13 = .ok (.aload_n 0, 1) := by decide +kernel
theorem dX8_firstOf_14 : decode cX8_firstOf 14 = .ok (.iload_n 1, 1) := by decide +kernel
theorem dX8_firstOf_15 : decode cX8_firstOf 15 = .ok (.bipush 8, 2) := by decide +kernel
theorem dX8_firstOf_17 : decode cX8_firstOf 17 = .ok (.iload_n 3, 1) := by decide +kernel
theorem dX8_firstOf_18 : decode cX8_firstOf 18 = .ok (.iadd, 1) := by decide +kernel
theorem dX8_firstOf_19 : decode cX8_firstOf 19 = .ok (.invokevirtual 59, 3) := by decide +kernel
theorem dX8_firstOf_22 : decode cX8_firstOf 22 = .ok (.istore 4, 2) := by decide +kernel
theorem dX8_firstOf_24 : decode cX8_firstOf 24 = .ok (.iload_n 2, 1) := by decide +kernel
theorem dX8_firstOf_25 : decode cX8_firstOf 25 = .ok (.iload 4, 2) := by decide +kernel
theorem dX8_firstOf_27 : decode cX8_firstOf 27 = .ok (.ishr, 1) := by decide +kernel
theorem dX8_firstOf_28 : decode cX8_firstOf 28 = .ok (.iconst 1, 1) := by decide +kernel
theorem dX8_firstOf_29 : decode cX8_firstOf 29 = .ok (.iand, 1) := by decide +kernel
theorem dX8_firstOf_30 : decode cX8_firstOf 30 = .ok (.ifCond .ne 16, 3) := by decide +kernel
theorem dX8_firstOf_33 : decode cX8_firstOf 33 = .ok (.aload_n 0, 1) := by decide +kernel
theorem dX8_firstOf_34 : decode cX8_firstOf 34 = .ok (.iload_n 1, 1) := by decide +kernel
theorem dX8_firstOf_35 : decode cX8_firstOf 35 = .ok (.iload 4, 2) := by decide +kernel
theorem dX8_firstOf_37 : decode cX8_firstOf 37 = .ok (.invokevirtual 105, 3) := by decide +kernel
theorem dX8_firstOf_40 : decode cX8_firstOf 40 = .ok (.ifCond .eq 6, 3) := by decide +kernel
theorem dX8_firstOf_43 : decode cX8_firstOf 43 = .ok (.iload 4, 2) := by decide +kernel
theorem dX8_firstOf_45 : decode cX8_firstOf 45 = .ok (.ireturn, 1) := by decide +kernel
theorem dX8_firstOf_46 : decode cX8_firstOf 46 = .ok (.iinc 3 1, 3) := by decide +kernel
theorem dX8_firstOf_49 : decode cX8_firstOf 49 = .ok (.goto (-47), 3) := by decide +kernel
theorem dX8_firstOf_52 : decode cX8_firstOf 52 = .ok (.bipush (-5), 2) := by decide +kernel
theorem dX8_firstOf_54 : decode cX8_firstOf 54 = .ok (.ireturn, 1) := by decide +kernel
set_option maxRecDepth 20000 in
theorem ggX8_heldSet_X8_of : GoodIn wsX8_heldSet wsX8_of := goodIn_r _ [6, 1, 7, 8, 9, 10, 11, 12, 13, 14, 15, 16, 17, 18, 19] (by decide +kernel) (by decide +kernel)
set_option maxRecDepth 20000 in
theorem gX8_heldSet_X8_of : GoodIn wsX8_heldSet (wsV RX8 59 RX8 yX8_of wsX8_of) := goodIn_app (goodIn_of _ (by decide +kernel)) ggX8_heldSet_X8_of
theorem dX8_heldSet_0 : decode cX8_heldSet 0 = .ok (.iconst 0, 1) := by decide +kernel
theorem dX8_heldSet_1 : decode cX8_heldSet 1 = .ok (.istore_n 1, 1) := by decide +kernel
theorem dX8_heldSet_2 : decode cX8_heldSet 2 = .ok (.iconst 0, 1) := by decide +kernel
theorem dX8_heldSet_3 : decode cX8_heldSet 3 = .ok (.istore_n 2, 1) := by decide +kernel
theorem dX8_heldSet_4 : decode cX8_heldSet 4 = .ok (.iload_n 2, 1) := by decide +kernel
theorem dX8_heldSet_5 : decode cX8_heldSet 5 = .ok (.aload_n 0, 1) := by decide +kernel
theorem dX8_heldSet_6 : decode cX8_heldSet 6 = .ok (.getfield 7, 3) := by decide +kernel
theorem dX8_heldSet_9 : decode cX8_heldSet 9 = .ok (.iconst 1, 1) := by decide +kernel
theorem dX8_heldSet_10 : decode cX8_heldSet 10 = .ok (.iaload, 1) := by decide +kernel
theorem dX8_heldSet_11 : decode cX8_heldSet 11 = .ok (.if_icmp .ge 35, 3) := by decide +kernel
theorem dX8_heldSet_14 : decode cX8_heldSet 14 = .ok (.iload_n 1, 1) := by decide +kernel
theorem dX8_heldSet_15 : decode cX8_heldSet 15 = .ok (.aload_n 0, 1) := by decide +kernel
theorem dX8_heldSet_16 : decode cX8_heldSet 16 = .ok (.iload_n 2, 1) := by decide +kernel
theorem dX8_heldSet_17 : decode cX8_heldSet 17 = .ok (.iconst 4, 1) := by decide +kernel
theorem dX8_heldSet_18 : decode cX8_heldSet 18 = .ok (.invokevirtual 59, 3) := by decide +kernel
theorem dX8_heldSet_21 : decode cX8_heldSet 21 = .ok (.bipush (-5), 2) := by decide +kernel
theorem dX8_heldSet_23 : decode cX8_heldSet 23 = .ok (.if_icmp .ne 7, 3) := by decide +kernel
theorem dX8_heldSet_26 : decode cX8_heldSet 26 = .ok (.iconst 0, 1) := by decide +kernel
theorem dX8_heldSet_27 : decode cX8_heldSet 27 = .ok (.goto 11, 3) := by decide +kernel
theorem dX8_heldSet_30 : decode cX8_heldSet 30 = .ok (.iconst 1, 1) := by decide +kernel
theorem dX8_heldSet_31 : decode cX8_heldSet 31 = .ok (.aload_n 0, 1) := by decide +kernel
theorem dX8_heldSet_32 : decode cX8_heldSet 32 = .ok (.iload_n 2, 1) := by decide +kernel
theorem dX8_heldSet_33 : decode cX8_heldSet 33 = .ok (.iconst 4, 1) := by decide +kernel
theorem dX8_heldSet_34 : decode cX8_heldSet 34 = .ok (.invokevirtual 59, 3) := by decide +kernel
theorem dX8_heldSet_37 : decode cX8_heldSet 37 = .ok (.ishl, 1) := by decide +kernel
theorem dX8_heldSet_38 : decode cX8_heldSet 38 = .ok (.ior, 1) := by decide +kernel
theorem dX8_heldSet_39 : decode cX8_heldSet 39 = .ok (.istore_n 1, 1) := by decide +kernel
theorem dX8_heldSet_40 : decode cX8_heldSet 40 = .ok (.iinc 2 1, 3) := by decide +kernel
theorem dX8_heldSet_43 : decode cX8_heldSet 43 = .ok (.goto (-39), 3) := by decide +kernel
theorem dX8_heldSet_46 : decode cX8_heldSet 46 = .ok (.iload_n 1, 1) := by decide +kernel
theorem dX8_heldSet_47 : decode cX8_heldSet 47 = .ok (.ireturn, 1) := by decide +kernel
set_option maxRecDepth 20000 in
theorem ggX8_round_X8_drawn : GoodIn wsX8_round wsX8_drawn := goodIn_r _ [6, 1, 7, 8, 9, 5, 10, 11, 12, 13, 14, 60, 61, 62, 63, 64, 65, 66, 67, 68, 69, 70, 71, 72] (by decide +kernel) (by decide +kernel)
set_option maxRecDepth 20000 in
theorem gX8_round_X8_drawn : GoodIn wsX8_round (wsV RX8 102 RX8 yX8_drawn wsX8_drawn) := goodIn_app (goodIn_of _ (by decide +kernel)) ggX8_round_X8_drawn
set_option maxRecDepth 20000 in
theorem ggX8_round_X8_records : GoodIn wsX8_round wsX8_records := goodIn_r _ [18, 19, 20, 1, 21, 22, 5, 23, 60, 61, 62, 63, 64, 65, 66, 67, 68, 69, 70, 71, 72] (by decide +kernel) (by decide +kernel)
set_option maxRecDepth 20000 in
theorem gX8_round_X8_records : GoodIn wsX8_round (wsV RX8 52 RX8 yX8_records wsX8_records) := goodIn_app (goodIn_of _ (by decide +kernel)) ggX8_round_X8_records
set_option maxRecDepth 20000 in
theorem ggX8_round_X8_at : GoodIn wsX8_round wsX8_at := goodIn_r _ [27, 1, 7, 8, 9, 5, 10, 11, 12, 13, 14, 28, 29, 30, 31, 32, 33, 34, 35, 60, 61, 62, 63, 64, 65, 66, 67, 68, 69, 70, 71, 72] (by decide +kernel) (by decide +kernel)
set_option maxRecDepth 20000 in
theorem gX8_round_X8_at : GoodIn wsX8_round (wsV RX8 108 RX8 yX8_at wsX8_at) := goodIn_app (goodIn_of _ (by decide +kernel)) ggX8_round_X8_at
set_option maxRecDepth 20000 in
theorem ggX8_round_X8_of : GoodIn wsX8_round wsX8_of := goodIn_r _ [14, 1, 60, 61, 62, 63, 64, 65, 66, 67, 68, 69, 70, 71, 72] (by decide +kernel) (by decide +kernel)
set_option maxRecDepth 20000 in
theorem gX8_round_X8_of : GoodIn wsX8_round (wsV RX8 59 RX8 yX8_of wsX8_of) := goodIn_app (goodIn_of _ (by decide +kernel)) ggX8_round_X8_of
set_option maxRecDepth 20000 in
theorem ggX8_round_X8_heldSet : GoodIn wsX8_round wsX8_heldSet := goodIn_r _ [39, 1, 11, 12, 13, 5, 14, 60, 61, 62, 63, 64, 65, 66, 67, 68, 69, 70, 71, 72] (by decide +kernel) (by decide +kernel)
set_option maxRecDepth 20000 in
theorem gX8_round_X8_heldSet : GoodIn wsX8_round (wsV RX8 111 RX8 yX8_heldSet wsX8_heldSet) := goodIn_app (goodIn_of _ (by decide +kernel)) ggX8_round_X8_heldSet
set_option maxRecDepth 20000 in
theorem ggX8_round_X8_firstOf : GoodIn wsX8_round wsX8_firstOf := goodIn_r _ [43, 11, 12, 13, 5, 14, 1, 44, 45, 46, 47, 48, 49, 50, 51, 52, 53, 54, 55, 60, 61, 62, 63, 64, 65, 66, 67, 68, 69, 70, 71, 72] (by decide +kernel) (by decide +kernel)
set_option maxRecDepth 20000 in
theorem gX8_round_X8_firstOf : GoodIn wsX8_round (wsV RX8 114 RX8 yX8_firstOf wsX8_firstOf) := goodIn_app (goodIn_of _ (by decide +kernel)) ggX8_round_X8_firstOf
set_option maxRecDepth 20000 in
theorem ggX8_round_X8_puts : GoodIn wsX8_round wsX8_puts := goodIn_r _ [59, 1, 60, 61, 62, 63, 64, 65, 66, 67, 68, 69, 70, 71, 72] (by decide +kernel) (by decide +kernel)
set_option maxRecDepth 20000 in
theorem gX8_round_X8_puts : GoodIn wsX8_round (wsV RX8 88 RX8 yX8_puts wsX8_puts) := goodIn_app (goodIn_of _ (by decide +kernel)) ggX8_round_X8_puts
theorem dX8_round_0 : decode cX8_round 0 = .ok (.aload_n 0, 1) := by decide +kernel
theorem dX8_round_1 : decode cX8_round 1 = .ok (.invokevirtual 102, 3) := by decide +kernel
theorem dX8_round_4 : decode cX8_round 4 = .ok (.istore_n 1, 1) := by decide +kernel
theorem dX8_round_5 : decode cX8_round 5 = .ok (.iload_n 1, 1) := by decide +kernel
theorem dX8_round_6 : decode cX8_round 6 = .ok (.ifCond .ne 6, 3) := by decide +kernel
theorem dX8_round_9 : decode cX8_round 9 = .ok (.bipush (-4), 2) := by decide +kernel
theorem dX8_round_11 : decode cX8_round 11 = .ok (.ireturn, 1) := by decide +kernel
theorem dX8_round_12 : decode cX8_round 12 = .ok (.aload_n 0, 1) := by decide +kernel
theorem dX8_round_13 : decode cX8_round 13 = .ok (.invokevirtual 52, 3) := by decide +kernel
theorem dX8_round_16 : decode cX8_round 16 = .ok (.iconst 0, 1) := by decide +kernel
theorem dX8_round_17 : decode cX8_round 17 = .ok (.istore_n 2, 1) := by decide +kernel
theorem dX8_round_18 : decode cX8_round 18 = .ok (.iconst 0, 1) := by decide +kernel
theorem dX8_round_19 : decode cX8_round 19 = .ok (.istore_n 3, 1) := by decide +kernel
theorem dX8_round_20 : decode cX8_round 20 = .ok (.iload_n 3, 1) := by decide +kernel
theorem dX8_round_21 : decode cX8_round 21 = .ok (.iload_n 1, 1) := by decide +kernel
theorem dX8_round_22 : decode cX8_round 22 = .ok (.if_icmp .ge 98, 3) := by decide +kernel
theorem dX8_round_25 : decode cX8_round 25 = .ok (.aload_n 0, 1) := by decide +kernel
theorem dX8_round_26 : decode cX8_round 26 = .ok (.iload_n 3, 1) := by decide +kernel
theorem dX8_round_27 : decode cX8_round 27 = .ok (.invokevirtual 108, 3) := by decide +kernel
theorem dX8_round_30 : decode cX8_round 30 = .ok (.istore 4, 2) := by decide +kernel
theorem dX8_round_32 : decode cX8_round 32 = .ok (.aload_n 0, 1) := by decide +kernel
theorem dX8_round_33 : decode cX8_round 33 = .ok (.iload 4, 2) := by decide +kernel
theorem dX8_round_35 : decode cX8_round 35 = .ok (.iconst 4, 1) := by decide +kernel
theorem dX8_round_36 : decode cX8_round 36 = .ok (.invokevirtual 59, 3) := by decide +kernel
theorem dX8_round_39 : decode cX8_round 39 = .ok (.bipush (-5), 2) := by decide +kernel
theorem dX8_round_41 : decode cX8_round 41 = .ok (.if_icmp .ne 16, 3) := by decide +kernel
theorem dX8_round_44 : decode cX8_round 44 = .ok (.aload_n 0, 1) := by decide +kernel
theorem dX8_round_45 : decode cX8_round 45 = .ok (.iload 4, 2) := by decide +kernel
theorem dX8_round_47 : decode cX8_round 47 = .ok (.aload_n 0, 1) := by decide +kernel
theorem dX8_round_48 : decode cX8_round 48 = .ok (.invokevirtual 111, 3) := by decide +kernel
theorem dX8_round_51 : decode cX8_round 51 = .ok (.invokevirtual 114, 3) := by decide +kernel
theorem dX8_round_54 : decode cX8_round 54 = .ok (.goto 5, 3) := by decide +kernel
theorem dX8_round_57 : decode cX8_round 57 = .ok (.bipush (-5), 2) := by decide +kernel
theorem dX8_round_59 : decode cX8_round 59 = .ok (.istore 5, 2) := by decide +kernel
theorem dX8_round_61 : decode cX8_round 61 = .ok (.iload 5, 2) := by decide +kernel
theorem dX8_round_63 : decode cX8_round 63 = .ok (.bipush (-5), 2) := by decide +kernel
theorem dX8_round_65 : decode cX8_round 65 = .ok (.if_icmp .eq 15, 3) := by decide +kernel
theorem dX8_round_68 : decode cX8_round 68 = .ok (.aload_n 0, 1) := by decide +kernel
theorem dX8_round_69 : decode cX8_round 69 = .ok (.iload 4, 2) := by decide +kernel
theorem dX8_round_71 : decode cX8_round 71 = .ok (.iconst 4, 1) := by decide +kernel
theorem dX8_round_72 : decode cX8_round 72 = .ok (.iload 5, 2) := by decide +kernel
theorem dX8_round_74 : decode cX8_round 74 = .ok (.invokevirtual 88, 3) := by decide +kernel
theorem dX8_round_77 : decode cX8_round 77 = .ok (.iinc 2 1, 3) := by decide +kernel
theorem dX8_round_80 : decode cX8_round 80 = .ok (.aload_n 0, 1) := by decide +kernel
theorem dX8_round_81 : decode cX8_round 81 = .ok (.iload 4, 2) := by decide +kernel
theorem dX8_round_83 : decode cX8_round 83 = .ok (.bipush 6, 2) := by decide +kernel
theorem dX8_round_85 : decode cX8_round 85 = .ok (.aload_n 0, 1) := by decide +kernel
theorem dX8_round_86 : decode cX8_round 86 = .ok (.iload 4, 2) := by decide +kernel
theorem dX8_round_88 : decode cX8_round 88 = .ok (.bipush 6, 2) := by decide +kernel
theorem dX8_round_90 : decode cX8_round 90 = .ok (.invokevirtual 59, 3) := by decide +kernel
theorem dX8_round_93 : decode cX8_round 93 = .ok (.aload_n 0, 1) := by decide +kernel
