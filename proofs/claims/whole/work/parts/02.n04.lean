theorem dX8_round_94 : decode cX8_round 94 = .ok (.iload 4, 2) := by decide +kernel
theorem dX8_round_96 : decode cX8_round 96 = .ok (.iconst 4, 1) := by decide +kernel
theorem dX8_round_97 : decode cX8_round 97 = .ok (.invokevirtual 59, 3) := by decide +kernel
theorem dX8_round_100 : decode cX8_round 100 = .ok (.bipush (-5), 2) := by decide +kernel
theorem dX8_round_102 : decode cX8_round 102 = .ok (.if_icmp .ne 7, 3) := by decide +kernel
theorem dX8_round_105 : decode cX8_round 105 = .ok (.iconst 1, 1) := by decide +kernel
theorem dX8_round_106 : decode cX8_round 106 = .ok (.goto 4, 3) := by decide +kernel
theorem dX8_round_109 : decode cX8_round 109 = .ok (.iconst 0, 1) := by decide +kernel
theorem dX8_round_110 : decode cX8_round 110 = .ok (.iadd, 1) := by decide +kernel
theorem dX8_round_111 : decode cX8_round 111 = .ok (.invokevirtual 88, 3) := by decide +kernel
theorem dX8_round_114 : decode cX8_round 114 = .ok (.iinc 3 1, 3) := by decide +kernel
theorem dX8_round_117 : decode cX8_round 117 = .ok (.goto (-97), 3) := by decide +kernel
theorem dX8_round_120 : decode cX8_round 120 = .ok (.aload_n 0, 1) := by decide +kernel
theorem dX8_round_121 : decode cX8_round 121 = .ok (.getfield 7, 3) := by decide +kernel
theorem dX8_round_124 : decode cX8_round 124 = .ok (.iconst 2, 1) := by decide +kernel
theorem dX8_round_125 : decode cX8_round 125 = .ok (.dup2, 1) := by decide +kernel
theorem dX8_round_126 : decode cX8_round 126 = .ok (.iaload, 1) := by decide +kernel
theorem dX8_round_127 : decode cX8_round 127 = .ok (.iconst 1, 1) := by decide +kernel
theorem dX8_round_128 : decode cX8_round 128 = .ok (.iadd, 1) := by decide +kernel
theorem dX8_round_129 : decode cX8_round 129 = .ok (.iastore, 1) := by decide +kernel
theorem dX8_round_130 : decode cX8_round 130 = .ok (.iload_n 2, 1) := by decide +kernel
theorem dX8_round_131 : decode cX8_round 131 = .ok (.ireturn, 1) := by decide +kernel
set_option maxRecDepth 20000 in
theorem ggX8_decline_X8_isHome : GoodIn wsX8_decline wsX8_isHome := goodIn_r _ [6, 1, 7, 8, 5, 9, 35, 36, 37, 38, 39, 40, 41, 42, 43, 44, 45, 46, 47] (by decide +kernel) (by decide +kernel)
set_option maxRecDepth 20000 in
theorem gX8_decline_X8_isHome : GoodIn wsX8_decline (wsV RX8 92 RX8 yX8_isHome wsX8_isHome) := goodIn_app (goodIn_of _ (by decide +kernel)) ggX8_decline_X8_isHome
set_option maxRecDepth 20000 in
theorem ggX8_decline_X8_of : GoodIn wsX8_decline wsX8_of := goodIn_r _ [13, 1, 35, 36, 37, 38, 39, 40, 41, 42, 43, 44, 45, 46, 47] (by decide +kernel) (by decide +kernel)
set_option maxRecDepth 20000 in
theorem gX8_decline_X8_of : GoodIn wsX8_decline (wsV RX8 59 RX8 yX8_of wsX8_of) := goodIn_app (goodIn_of _ (by decide +kernel)) ggX8_decline_X8_of
set_option maxRecDepth 20000 in
theorem ggX8_decline_X8_records : GoodIn wsX8_decline wsX8_records := goodIn_r _ [17, 18, 19, 1, 20, 21, 5, 22, 35, 36, 37, 38, 39, 40, 41, 42, 43, 44, 45, 46, 47] (by decide +kernel) (by decide +kernel)
set_option maxRecDepth 20000 in
theorem gX8_decline_X8_records : GoodIn wsX8_decline (wsV RX8 52 RX8 yX8_records wsX8_records) := goodIn_app (goodIn_of _ (by decide +kernel)) ggX8_decline_X8_records
set_option maxRecDepth 20000 in
theorem ggX8_decline_X8_puts : GoodIn wsX8_decline wsX8_puts := goodIn_r _ [26, 1, 35, 36, 37, 38, 39, 40, 41, 42, 43, 44, 45, 46, 47] (by decide +kernel) (by decide +kernel)
set_option maxRecDepth 20000 in
theorem gX8_decline_X8_puts : GoodIn wsX8_decline (wsV RX8 88 RX8 yX8_puts wsX8_puts) := goodIn_app (goodIn_of _ (by decide +kernel)) ggX8_decline_X8_puts
set_option maxRecDepth 20000 in
theorem ggX8_decline_X8_placeOn : GoodIn wsX8_decline wsX8_placeOn := goodIn_r _ [30, 10, 11, 12, 5, 13, 1, 35, 36, 37, 38, 39, 40, 41, 42, 43, 44, 45, 46, 47] (by decide +kernel) (by decide +kernel)
set_option maxRecDepth 20000 in
theorem gX8_decline_X8_placeOn : GoodIn wsX8_decline (wsV RX8 70 RX8 yX8_placeOn wsX8_placeOn) := goodIn_app (goodIn_of _ (by decide +kernel)) ggX8_decline_X8_placeOn
set_option maxRecDepth 20000 in
theorem ggX8_decline_X8_takesOff : GoodIn wsX8_decline wsX8_takesOff := goodIn_r _ [34, 10, 11, 12, 5, 13, 1, 23, 24, 25, 26, 35, 36, 37, 38, 39, 40, 41, 42, 43, 44, 45, 46, 47] (by decide +kernel) (by decide +kernel)
set_option maxRecDepth 20000 in
theorem gX8_decline_X8_takesOff : GoodIn wsX8_decline (wsV RX8 98 RX8 yX8_takesOff wsX8_takesOff) := goodIn_app (goodIn_of _ (by decide +kernel)) ggX8_decline_X8_takesOff
theorem dX8_decline_0 : decode cX8_decline 0 = .ok (.aload_n 0, 1) := by decide +kernel
theorem dX8_decline_1 : decode cX8_decline 1 = .ok (.iload_n 1, 1) := by decide +kernel
theorem dX8_decline_2 : decode cX8_decline 2 = .ok (.invokevirtual 92, 3) := by decide +kernel
theorem dX8_decline_5 : decode cX8_decline 5 = .ok (.ifCond .ne 5, 3) := by decide +kernel
theorem dX8_decline_8 : decode cX8_decline 8 = .ok (.iconst (-1), 1) := by decide +kernel
theorem dX8_decline_9 : decode cX8_decline 9 = .ok (.ireturn, 1) := by decide +kernel
theorem dX8_decline_10 : decode cX8_decline 10 = .ok (.aload_n 0, 1) := by decide +kernel
theorem dX8_decline_11 : decode cX8_decline 11 = .ok (.iload_n 1, 1) := by decide +kernel
theorem dX8_decline_12 : decode cX8_decline 12 = .ok (.iconst 4, 1) := by decide +kernel
theorem dX8_decline_13 : decode cX8_decline 13 = .ok (.invokevirtual 59, 3) := by decide +kernel
theorem dX8_decline_16 : decode cX8_decline 16 = .ok (.istore_n 2, 1) := by decide +kernel
theorem dX8_decline_17 : decode cX8_decline 17 = .ok (.iload_n 2, 1) := by decide +kernel
theorem dX8_decline_18 : decode cX8_decline 18 = .ok (.bipush (-5), 2) := by decide +kernel
theorem dX8_decline_20 : decode cX8_decline 20 = .ok (.if_icmp .ne 6, 3) := by decide +kernel
theorem dX8_decline_23 : decode cX8_decline 23 = .ok (.bipush (-4), 2) := by decide +kernel
theorem dX8_decline_25 : decode cX8_decline 25 = .ok (.ireturn, 1) := by decide +kernel
theorem dX8_decline_26 : decode cX8_decline 26 = .ok (.aload_n 0, 1) := by decide +kernel
theorem dX8_decline_27 : decode cX8_decline 27 = .ok (.invokevirtual 52, 3) := by decide +kernel
theorem dX8_decline_30 : decode cX8_decline 30 = .ok (.aload_n 0, 1) := by decide +kernel
theorem dX8_decline_31 : decode cX8_decline 31 = .ok (.iload_n 1, 1) := by decide +kernel
theorem dX8_decline_32 : decode cX8_decline 32 = .ok (.iconst 4, 1) := by decide +kernel
theorem dX8_decline_33 : decode cX8_decline 33 = .ok (.bipush (-5), 2) := by decide +kernel
theorem dX8_decline_35 : decode cX8_decline 35 = .ok (.invokevirtual 88, 3) := by decide +kernel
theorem dX8_decline_38 : decode cX8_decline 38 = .ok (.aload_n 0, 1) := by decide +kernel
theorem dX8_decline_39 : decode cX8_decline 39 = .ok (.iload_n 1, 1) := by decide +kernel
theorem dX8_decline_40 : decode cX8_decline 40 = .ok (.iload_n 2, 1) := by decide +kernel
theorem dX8_decline_41 : decode cX8_decline 41 = .ok (.invokevirtual 70, 3) := by decide +kernel
theorem dX8_decline_44 : decode cX8_decline 44 = .ok (.istore_n 3, 1) := by decide +kernel
theorem dX8_decline_45 : decode cX8_decline 45 = .ok (.iload_n 3, 1) := by decide +kernel
theorem dX8_decline_46 : decode cX8_decline 46 = .ok (.bipush (-5), 2) := by decide +kernel
theorem dX8_decline_48 : decode cX8_decline 48 = .ok (.if_icmp .eq 9, 3) := by decide +kernel
theorem dX8_decline_51 : decode cX8_decline 51 = .ok (.aload_n 0, 1) := by decide +kernel
theorem dX8_decline_52 : decode cX8_decline 52 = .ok (.iload_n 1, 1) := by decide +kernel
theorem dX8_decline_53 : decode cX8_decline 53 = .ok (.iload_n 3, 1) := by decide +kernel
theorem dX8_decline_54 : decode cX8_decline 54 = .ok (.invokevirtual 98, 3) := by decide +kernel
theorem dX8_decline_57 : decode cX8_decline 57 = .ok (.aload_n 0, 1) := by decide +kernel
theorem dX8_decline_58 : decode cX8_decline 58 = .ok (.iload_n 1, 1) := by decide +kernel
theorem dX8_decline_59 : decode cX8_decline 59 = .ok (.iconst 3, 1) := by decide +kernel
theorem dX8_decline_60 : decode cX8_decline 60 = .ok (.invokevirtual 59, 3) := by decide +kernel
theorem dX8_decline_63 : decode cX8_decline 63 = .ok (.istore 4, 2) := by decide +kernel
theorem dX8_decline_65 : decode cX8_decline 65 = .ok (.aload_n 0, 1) := by decide +kernel
theorem dX8_decline_66 : decode cX8_decline 66 = .ok (.iload_n 1, 1) := by decide +kernel
theorem dX8_decline_67 : decode cX8_decline 67 = .ok (.iconst 3, 1) := by decide +kernel
theorem dX8_decline_68 : decode cX8_decline 68 = .ok (.iload 4, 2) := by decide +kernel
theorem dX8_decline_70 : decode cX8_decline 70 = .ok (.ifCond .le 10, 3) := by decide +kernel
theorem dX8_decline_73 : decode cX8_decline 73 = .ok (.iload 4, 2) := by decide +kernel
theorem dX8_decline_75 : decode cX8_decline 75 = .ok (.iconst 1, 1) := by decide +kernel
theorem dX8_decline_76 : decode cX8_decline 76 = .ok (.isub, 1) := by decide +kernel
theorem dX8_decline_77 : decode cX8_decline 77 = .ok (.goto 4, 3) := by decide +kernel
theorem dX8_decline_80 : decode cX8_decline 80 = .ok (.iconst 0, 1) := by decide +kernel
theorem dX8_decline_81 : decode cX8_decline 81 = .ok (.invokevirtual 88, 3) := by decide +kernel
theorem dX8_decline_84 : decode cX8_decline 84 = .ok (.aload_n 0, 1) := by decide +kernel
theorem dX8_decline_85 : decode cX8_decline 85 = .ok (.getfield 7, 3) := by decide +kernel
theorem dX8_decline_88 : decode cX8_decline 88 = .ok (.iconst 5, 1) := by decide +kernel
theorem dX8_decline_89 : decode cX8_decline 89 = .ok (.dup2, 1) := by decide +kernel
theorem dX8_decline_90 : decode cX8_decline 90 = .ok (.iaload, 1) := by decide +kernel
theorem dX8_decline_91 : decode cX8_decline 91 = .ok (.iconst 1, 1) := by decide +kernel
theorem dX8_decline_92 : decode cX8_decline 92 = .ok (.iadd, 1) := by decide +kernel
theorem dX8_decline_93 : decode cX8_decline 93 = .ok (.iastore, 1) := by decide +kernel
theorem dX8_decline_94 : decode cX8_decline 94 = .ok (.iload_n 2, 1) := by decide +kernel
theorem dX8_decline_95 : decode cX8_decline 95 = .ok (.ireturn, 1) := by decide +kernel
set_option maxRecDepth 20000 in
theorem ggX8_doesEnvy_X8_of : GoodIn wsX8_doesEnvy wsX8_of := goodIn_r _ [5, 6, 27, 28, 29, 30, 31, 32, 33, 34, 35, 36, 37, 38, 39] (by decide +kernel) (by decide +kernel)
set_option maxRecDepth 20000 in
theorem gX8_doesEnvy_X8_of : GoodIn wsX8_doesEnvy (wsV RX8 59 RX8 yX8_of wsX8_of) := goodIn_app (goodIn_of _ (by decide +kernel)) ggX8_doesEnvy_X8_of
set_option maxRecDepth 20000 in
theorem ggX8_doesEnvy_X8_wishesMore : GoodIn wsX8_doesEnvy wsX8_wishesMore := goodIn_r _ [10, 11, 12, 13, 4, 14, 1, 2, 3, 5, 6, 27, 28, 29, 30, 31, 32, 33, 34, 35, 36, 37, 38, 39] (by decide +kernel) (by decide +kernel)
set_option maxRecDepth 20000 in
theorem gX8_doesEnvy_X8_wishesMore : GoodIn wsX8_doesEnvy (wsV RX8 117 RX8 yX8_wishesMore wsX8_wishesMore) := goodIn_app (goodIn_of _ (by decide +kernel)) ggX8_doesEnvy_X8_wishesMore
set_option maxRecDepth 20000 in
theorem ggX8_doesEnvy_X8_isEligible : GoodIn wsX8_doesEnvy wsX8_isEligible := goodIn_r _ [18, 1, 2, 3, 4, 5, 6, 19, 20, 21, 22, 23, 24, 25, 26, 27, 28, 29, 30, 31, 32, 33, 34, 35, 36, 37, 38, 39] (by decide +kernel) (by decide +kernel)
set_option maxRecDepth 20000 in
theorem gX8_doesEnvy_X8_isEligible : GoodIn wsX8_doesEnvy (wsV RX8 105 RX8 yX8_isEligible wsX8_isEligible) := goodIn_app (goodIn_of _ (by decide +kernel)) ggX8_doesEnvy_X8_isEligible
theorem dX8_doesEnvy_0 : decode cX8_doesEnvy 0 = .ok (.aload_n 0, 1) := by decide +kernel
theorem dX8_doesEnvy_1 : decode cX8_doesEnvy 1 = .ok (.iload_n 2, 1) := by decide +kernel
theorem dX8_doesEnvy_2 : decode cX8_doesEnvy 2 = .ok (.iconst 4, 1) := by decide +kernel
theorem dX8_doesEnvy_3 : decode cX8_doesEnvy 3 = .ok (.invokevirtual 59, 3) := by decide +kernel
theorem dX8_doesEnvy_6 : decode cX8_doesEnvy 6 = .ok (.istore_n 3, 1) := by decide +kernel
theorem dX8_doesEnvy_7 : decode cX8_doesEnvy 7 = .ok (.iload_n 1, 1) := by decide +kernel
theorem dX8_doesEnvy_8 : decode cX8_doesEnvy 8 = .ok (.iload_n 2, 1) := by decide +kernel
theorem dX8_doesEnvy_9 : decode cX8_doesEnvy 9 = .ok (.if_icmp .eq 31, 3) := by decide +kernel
theorem dX8_doesEnvy_12 : decode cX8_doesEnvy 12 = .ok (.iload_n 3, 1) := by decide +kernel
theorem dX8_doesEnvy_13 : decode cX8_doesEnvy 13 = .ok (.bipush (-5), 2) := by decide +kernel
theorem dX8_doesEnvy_15 : decode cX8_doesEnvy 15 = .ok (.if_icmp .eq 25, 3) := by decide +kernel
theorem dX8_doesEnvy_18 : decode cX8_doesEnvy 18 = .ok (.aload_n 0, 1) := by decide +kernel
theorem dX8_doesEnvy_19 : decode cX8_doesEnvy 19 = .ok (.iload_n 1, 1) := by decide +kernel
theorem dX8_doesEnvy_20 : decode cX8_doesEnvy 20 = .ok (.iload_n 3, 1) := by decide +kernel
theorem dX8_doesEnvy_21 : decode cX8_doesEnvy 21 = .ok (.invokevirtual 117, 3) := by decide +kernel
theorem dX8_doesEnvy_24 : decode cX8_doesEnvy 24 = .ok (.ifCond .eq 16, 3) := by decide +kernel
theorem dX8_doesEnvy_27 : decode cX8_doesEnvy 27 = .ok (.aload_n 0, 1) := by decide +kernel
theorem dX8_doesEnvy_28 : decode cX8_doesEnvy 28 = .ok (.iload_n 1, 1) := by decide +kernel
theorem dX8_doesEnvy_29 : decode cX8_doesEnvy 29 = .ok (.iload_n 3, 1) := by decide +kernel
theorem dX8_doesEnvy_30 : decode cX8_doesEnvy 30 = .ok (.invokevirtual 105, 3) := by decide +kernel
theorem dX8_doesEnvy_33 : decode cX8_doesEnvy 33 = .ok (.ifCond .eq 7, 3) := by decide +kernel
theorem dX8_doesEnvy_36 : decode cX8_doesEnvy 36 = .ok (.iconst 1, 1) := by decide +kernel
theorem dX8_doesEnvy_37 : decode cX8_doesEnvy 37 = .ok (.goto 4, 3) := by decide +kernel
theorem dX8_doesEnvy_40 : decode cX8_doesEnvy 40 = .ok (.iconst 0, 1) := by decide +kernel
theorem dX8_doesEnvy_41 : decode cX8_doesEnvy 41 = .ok (.ireturn, 1) := by decide +kernel
set_option maxRecDepth 20000 in
theorem ggX8_isWronged_X8_doesEnvy : GoodIn wsX8_isWronged wsX8_doesEnvy := goodIn_r _ [6, 7, 8, 9, 5, 10, 1, 11, 12, 13, 14, 15, 16, 17, 18, 19, 20, 21, 22, 23, 24, 25, 26, 27, 28, 29, 30, 39, 40, 41, 42, 43, 44, 45, 46, 47, 48, 49, 50, 51] (by decide +kernel) (by decide +kernel)
set_option maxRecDepth 20000 in
theorem gX8_isWronged_X8_doesEnvy : GoodIn wsX8_isWronged (wsV RX8 120 RX8 yX8_doesEnvy wsX8_doesEnvy) := goodIn_app (goodIn_of _ (by decide +kernel)) ggX8_isWronged_X8_doesEnvy
set_option maxRecDepth 20000 in
theorem ggX8_isWronged_X8_isAhead : GoodIn wsX8_isWronged wsX8_isAhead := goodIn_r _ [34, 7, 8, 9, 5, 10, 1, 35, 36, 37, 38, 39, 40, 41, 42, 43, 44, 45, 46, 47, 48, 49, 50, 51] (by decide +kernel) (by decide +kernel)
set_option maxRecDepth 20000 in
theorem gX8_isWronged_X8_isAhead : GoodIn wsX8_isWronged (wsV RX8 77 RX8 yX8_isAhead wsX8_isAhead) := goodIn_app (goodIn_of _ (by decide +kernel)) ggX8_isWronged_X8_isAhead
theorem dX8_isWronged_0 : decode cX8_isWronged 0 = .ok (.iconst 0, 1) := by decide +kernel
theorem dX8_isWronged_1 : decode cX8_isWronged 1 = .ok (.istore_n 2, 1) := by decide +kernel
theorem dX8_isWronged_2 : decode cX8_isWronged 2 = .ok (.iconst 0, 1) := by decide +kernel
theorem dX8_isWronged_3 : decode cX8_isWronged 3 = .ok (.istore_n 3, 1) := by decide +kernel
theorem dX8_isWronged_4 : decode cX8_isWronged 4 = .ok (.iload_n 3, 1) := by decide +kernel
theorem dX8_isWronged_5 : decode cX8_isWronged 5 = .ok (.aload_n 0, 1) := by decide +kernel
theorem dX8_isWronged_6 : decode cX8_isWronged 6 = .ok (.getfield 7, 3) := by decide +kernel
theorem dX8_isWronged_9 : decode cX8_isWronged 9 = .ok (.iconst 1, 1) := by decide +kernel
theorem dX8_isWronged_10 : decode cX8_isWronged 10 = .ok (.iaload, 1) := by decide +kernel
theorem dX8_isWronged_11 : decode cX8_isWronged 11 = .ok (.if_icmp .ge 37, 3) := by decide +kernel
theorem dX8_isWronged_14 : decode cX8_isWronged 14 = .ok (.iload_n 2, 1) := by decide +kernel
theorem dX8_isWronged_15 : decode cX8_isWronged 15 = .ok (.ifCond .ne 21, 3) := by decide +kernel
theorem dX8_isWronged_18 : decode cX8_isWronged 18 = .ok (.aload_n 0, 1) := by decide +kernel
theorem dX8_isWronged_19 : decode cX8_isWronged 19 = .ok (.iload_n 1, 1) := by decide +kernel
theorem dX8_isWronged_20 : decode cX8_isWronged 20 = .ok (.iload_n 3, 1) := by decide +kernel
theorem dX8_isWronged_21 : decode cX8_isWronged 21 = .ok (.invokevirtual 120, 3) := by decide +kernel
theorem dX8_isWronged_24 : decode cX8_isWronged 24 = .ok (.ifCond .eq 16, 3) := by decide +kernel
theorem dX8_isWronged_27 : decode cX8_isWronged 27 = .ok (.aload_n 0, 1) := by decide +kernel
theorem dX8_isWronged_28 : decode cX8_isWronged 28 = .ok (.iload_n 1, 1) := by decide +kernel
theorem dX8_isWronged_29 : decode cX8_isWronged 29 = .ok (.iload_n 3, 1) := by decide +kernel
theorem dX8_isWronged_30 : decode cX8_isWronged 30 = .ok (.invokevirtual 77, 3) := by decide +kernel
theorem dX8_isWronged_33 : decode cX8_isWronged 33 = .ok (.ifCond .eq 7, 3) := by decide +kernel
theorem dX8_isWronged_36 : decode cX8_isWronged 36 = .ok (.iconst 1, 1) := by decide +kernel
theorem dX8_isWronged_37 : decode cX8_isWronged 37 = .ok (.goto 4, 3) := by decide +kernel
theorem dX8_isWronged_40 : decode cX8_isWronged 40 = .ok (.iconst 0, 1) := by decide +kernel
theorem dX8_isWronged_41 : decode cX8_isWronged 41 = .ok (.istore_n 2, 1) := by decide +kernel
theorem dX8_isWronged_42 : decode cX8_isWronged 42 = .ok (.iinc 3 1, 3) := by decide +kernel
theorem dX8_isWronged_45 : decode cX8_isWronged 45 = .ok (.goto (-41), 3) := by decide +kernel
theorem dX8_isWronged_48 : decode cX8_isWronged 48 = .ok (.iload_n 2, 1) := by decide +kernel
theorem dX8_isWronged_49 : decode cX8_isWronged 49 = .ok (.ireturn, 1) := by decide +kernel
set_option maxRecDepth 20000 in
theorem ggX8_holds_X8_of : GoodIn wsX8_holds wsX8_of := goodIn_r _ [5, 6, 43, 44, 45, 46, 47, 48, 49, 50, 51, 52, 53, 54, 55] (by decide +kernel) (by decide +kernel)
set_option maxRecDepth 20000 in
theorem gX8_holds_X8_of : GoodIn wsX8_holds (wsV RX8 59 RX8 yX8_of wsX8_of) := goodIn_app (goodIn_of _ (by decide +kernel)) ggX8_holds_X8_of
set_option maxRecDepth 20000 in
theorem ggX8_holds_X8_isDrawn : GoodIn wsX8_holds wsX8_isDrawn := goodIn_r _ [10, 1, 2, 3, 4, 5, 6, 43, 44, 45, 46, 47, 48, 49, 50, 51, 52, 53, 54, 55] (by decide +kernel) (by decide +kernel)
set_option maxRecDepth 20000 in
theorem gX8_holds_X8_isDrawn : GoodIn wsX8_holds (wsV RX8 73 RX8 yX8_isDrawn wsX8_isDrawn) := goodIn_app (goodIn_of _ (by decide +kernel)) ggX8_holds_X8_isDrawn
set_option maxRecDepth 20000 in
theorem ggX8_holds_X8_rooms : GoodIn wsX8_holds wsX8_rooms := goodIn_r _ [14, 6, 43, 44, 45, 46, 47, 48, 49, 50, 51, 52, 53, 54, 55] (by decide +kernel) (by decide +kernel)
set_option maxRecDepth 20000 in
theorem gX8_holds_X8_rooms : GoodIn wsX8_holds (wsV RX8 63 RX8 yX8_rooms wsX8_rooms) := goodIn_app (goodIn_of _ (by decide +kernel)) ggX8_holds_X8_rooms
set_option maxRecDepth 20000 in
theorem ggX8_holds_X8_isWronged : GoodIn wsX8_holds wsX8_isWronged := goodIn_r _ [18, 6, 19, 20, 21, 4, 22, 1, 2, 3, 5, 23, 24, 25, 26, 27, 28, 29, 30, 31, 32, 33, 34, 11, 12, 13, 14, 35, 36, 37, 38, 39, 40, 41, 42, 7, 8, 9, 10, 43, 44, 45, 46, 47, 48, 49, 50, 51, 52, 53, 54, 55] (by decide +kernel) (by decide +kernel)
set_option maxRecDepth 20000 in
theorem gX8_holds_X8_isWronged : GoodIn wsX8_holds (wsV RX8 123 RX8 yX8_isWronged wsX8_isWronged) := goodIn_app (goodIn_of _ (by decide +kernel)) ggX8_holds_X8_isWronged
theorem dX8_holds_0 : decode cX8_holds 0 = .ok (.aload_n 0, 1) := by decide +kernel
theorem dX8_holds_1 : decode cX8_holds 1 = .ok (.iload_n 1, 1) := by decide +kernel
theorem dX8_holds_2 : decode cX8_holds 2 = .ok (.iconst 4, 1) := by decide +kernel
theorem dX8_holds_3 : decode cX8_holds 3 = .ok (.invokevirtual 59, 3) := by decide +kernel
theorem dX8_holds_6 : decode cX8_holds 6 = .ok (.istore_n 3, 1) := by decide +kernel
theorem dX8_holds_7 : decode cX8_holds 7 = .ok (.iload_n 2, 1) := by decide +kernel
theorem dX8_holds_8 : decode cX8_holds 8 = .ok (.lookupswitch 86 #[(0, 28), (1, 58)], 28) := by decide +kernel
theorem dX8_holds_36 : decode cX8_holds 36 = .ok (.aload_n 0, 1) := by decide +kernel
theorem dX8_holds_37 : decode cX8_holds 37 = .ok (.iload_n 1, 1) := by decide +kernel
theorem dX8_holds_38 : decode cX8_holds 38 = .ok (.invokevirtual 73, 3) := by decide +kernel
theorem dX8_holds_41 : decode cX8_holds 41 = .ok (.ifCond .eq 23, 3) := by decide +kernel
theorem dX8_holds_44 : decode cX8_holds 44 = .ok (.iload_n 3, 1) := by decide +kernel
theorem dX8_holds_45 : decode cX8_holds 45 = .ok (.bipush (-5), 2) := by decide +kernel
theorem dX8_holds_47 : decode cX8_holds 47 = .ok (.if_icmp .ne 17, 3) := by decide +kernel
theorem dX8_holds_50 : decode cX8_holds 50 = .ok (.aload_n 0, 1) := by decide +kernel
theorem dX8_holds_51 : decode cX8_holds 51 = .ok (.iload_n 1, 1) := by decide +kernel
theorem dX8_holds_52 : decode cX8_holds 52 = .ok (.bipush 6, 2) := by decide +kernel
theorem dX8_holds_54 : decode cX8_holds 54 = .ok (.invokevirtual 59, 3) := by decide +kernel
theorem dX8_holds_57 : decode cX8_holds 57 = .ok (.ifCond .le 7, 3) := by decide +kernel
theorem dX8_holds_60 : decode cX8_holds 60 = .ok (.iconst 1, 1) := by decide +kernel
theorem dX8_holds_61 : decode cX8_holds 61 = .ok (.goto 4, 3) := by decide +kernel
theorem dX8_holds_64 : decode cX8_holds 64 = .ok (.iconst 0, 1) := by decide +kernel
theorem dX8_holds_65 : decode cX8_holds 65 = .ok (.ireturn, 1) := by decide +kernel
theorem dX8_holds_66 : decode cX8_holds 66 = .ok (.iload_n 3, 1) := by decide +kernel
theorem dX8_holds_67 : decode cX8_holds 67 = .ok (.bipush (-5), 2) := by decide +kernel
theorem dX8_holds_69 : decode cX8_holds 69 = .ok (.if_icmp .eq 23, 3) := by decide +kernel
theorem dX8_holds_72 : decode cX8_holds 72 = .ok (.aload_n 0, 1) := by decide +kernel
theorem dX8_holds_73 : decode cX8_holds 73 = .ok (.iload_n 1, 1) := by decide +kernel
theorem dX8_holds_74 : decode cX8_holds 74 = .ok (.iconst 0, 1) := by decide +kernel
theorem dX8_holds_75 : decode cX8_holds 75 = .ok (.invokevirtual 59, 3) := by decide +kernel
theorem dX8_holds_78 : decode cX8_holds 78 = .ok (.aload_n 0, 1) := by decide +kernel
theorem dX8_holds_79 : decode cX8_holds 79 = .ok (.iload_n 3, 1) := by decide +kernel
theorem dX8_holds_80 : decode cX8_holds 80 = .ok (.invokevirtual 63, 3) := by decide +kernel
theorem dX8_holds_83 : decode cX8_holds 83 = .ok (.iconst 1, 1) := by decide +kernel
theorem dX8_holds_84 : decode cX8_holds 84 = .ok (.iadd, 1) := by decide +kernel
theorem dX8_holds_85 : decode cX8_holds 85 = .ok (.if_icmp .le 7, 3) := by decide +kernel
theorem dX8_holds_88 : decode cX8_holds 88 = .ok (.iconst 1, 1) := by decide +kernel
theorem dX8_holds_89 : decode cX8_holds 89 = .ok (.goto 4, 3) := by decide +kernel
theorem dX8_holds_92 : decode cX8_holds 92 = .ok (.iconst 0, 1) := by decide +kernel
theorem dX8_holds_93 : decode cX8_holds 93 = .ok (.ireturn, 1) := by decide +kernel
theorem dX8_holds_94 : decode cX8_holds 94 = .ok (.aload_n 0, 1) := by decide +kernel
theorem dX8_holds_95 : decode cX8_holds 95 = .ok (.iload_n 1, 1) := by decide +kernel
theorem dX8_holds_96 : decode cX8_holds 96 = .ok (.invokevirtual 123, 3) := by decide +kernel
theorem dX8_holds_99 : decode cX8_holds 99 = .ok (.ireturn, 1) := by decide +kernel
set_option maxRecDepth 20000 in
theorem ggX8_appeal_X8_isHome : GoodIn wsX8_appeal wsX8_isHome := goodIn_r _ [6, 1, 7, 8, 5, 9, 67, 68, 69, 70, 71, 72, 73, 74, 75, 76, 77, 78, 79] (by decide +kernel) (by decide +kernel)
set_option maxRecDepth 20000 in
theorem gX8_appeal_X8_isHome : GoodIn wsX8_appeal (wsV RX8 92 RX8 yX8_isHome wsX8_isHome) := goodIn_app (goodIn_of _ (by decide +kernel)) ggX8_appeal_X8_isHome
set_option maxRecDepth 20000 in
theorem ggX8_appeal_X8_in : GoodIn wsX8_appeal wsX8_in := goodIn_r _ [9] (by decide +kernel) (by decide +kernel)
set_option maxRecDepth 20000 in
theorem gX8_appeal_X8_in : GoodIn wsX8_appeal (va_wsS RX8 55 yX8_in wsX8_in) := goodIn_app (goodIn_of _ (by decide +kernel)) ggX8_appeal_X8_in
set_option maxRecDepth 20000 in
theorem ggX8_appeal_X8_of : GoodIn wsX8_appeal wsX8_of := goodIn_r _ [13, 1, 67, 68, 69, 70, 71, 72, 73, 74, 75, 76, 77, 78, 79] (by decide +kernel) (by decide +kernel)
set_option maxRecDepth 20000 in
theorem gX8_appeal_X8_of : GoodIn wsX8_appeal (wsV RX8 59 RX8 yX8_of wsX8_of) := goodIn_app (goodIn_of _ (by decide +kernel)) ggX8_appeal_X8_of
set_option maxRecDepth 20000 in
theorem ggX8_appeal_X8_records : GoodIn wsX8_appeal wsX8_records := goodIn_r _ [17, 18, 19, 1, 20, 21, 5, 22, 67, 68, 69, 70, 71, 72, 73, 74, 75, 76, 77, 78, 79] (by decide +kernel) (by decide +kernel)
set_option maxRecDepth 20000 in
theorem gX8_appeal_X8_records : GoodIn wsX8_appeal (wsV RX8 52 RX8 yX8_records wsX8_records) := goodIn_app (goodIn_of _ (by decide +kernel)) ggX8_appeal_X8_records
set_option maxRecDepth 20000 in
theorem ggX8_appeal_X8_holds : GoodIn wsX8_appeal wsX8_holds := goodIn_r _ [26, 10, 11, 12, 5, 13, 1, 27, 28, 29, 30, 31, 32, 33, 34, 35, 36, 37, 38, 39, 40, 41, 42, 43, 44, 45, 46, 47, 48, 49, 50, 51, 52, 53, 54, 55, 56, 57, 58, 59, 60, 61, 62, 67, 68, 69, 70, 71, 72, 73, 74, 75, 76, 77, 78, 79] (by decide +kernel) (by decide +kernel)
set_option maxRecDepth 20000 in
theorem gX8_appeal_X8_holds : GoodIn wsX8_appeal (wsV RX8 126 RX8 yX8_holds wsX8_holds) := goodIn_app (goodIn_of _ (by decide +kernel)) ggX8_appeal_X8_holds
set_option maxRecDepth 20000 in
theorem ggX8_appeal_X8_puts : GoodIn wsX8_appeal wsX8_puts := goodIn_r _ [66, 1, 67, 68, 69, 70, 71, 72, 73, 74, 75, 76, 77, 78, 79] (by decide +kernel) (by decide +kernel)
set_option maxRecDepth 20000 in
theorem gX8_appeal_X8_puts : GoodIn wsX8_appeal (wsV RX8 88 RX8 yX8_puts wsX8_puts) := goodIn_app (goodIn_of _ (by decide +kernel)) ggX8_appeal_X8_puts
theorem dX8_appeal_0 : decode cX8_appeal 0 = .ok (.aload_n 0, 1) := by decide +kernel
theorem dX8_appeal_1 : decode cX8_appeal 1 = .ok (.iload_n 1, 1) := by decide +kernel
theorem dX8_appeal_2 : decode cX8_appeal 2 = .ok (.invokevirtual 92, 3) := by decide +kernel
theorem dX8_appeal_5 : decode cX8_appeal 5 = .ok (.ifCond .ne 5, 3) := by decide +kernel
theorem dX8_appeal_8 : decode cX8_appeal 8 = .ok (.iconst (-1), 1) := by decide +kernel
theorem dX8_appeal_9 : decode cX8_appeal 9 = .ok (.ireturn, 1) := by decide +kernel
theorem dX8_appeal_10 : decode cX8_appeal 10 = .ok (.iload_n 2, 1) := by decide +kernel
theorem dX8_appeal_11 : decode cX8_appeal 11 = .ok (.iconst 0, 1) := by decide +kernel
theorem dX8_appeal_12 : decode cX8_appeal 12 = .ok (.iconst 2, 1) := by decide +kernel
theorem dX8_appeal_13 : decode cX8_appeal 13 = .ok (.invokestatic 55, 3) := by decide +kernel
theorem dX8_appeal_16 : decode cX8_appeal 16 = .ok (.ifCond .ne 6, 3) := by decide +kernel
theorem dX8_appeal_19 : decode cX8_appeal 19 = .ok (.bipush (-2), 2) := by decide +kernel
theorem dX8_appeal_21 : decode cX8_appeal 21 = .ok (.ireturn, 1) := by decide +kernel
theorem dX8_appeal_22 : decode cX8_appeal 22 = .ok (.aload_n 0, 1) := by decide +kernel
theorem dX8_appeal_23 : decode cX8_appeal 23 = .ok (.iload_n 1, 1) := by decide +kernel
theorem dX8_appeal_24 : decode cX8_appeal 24 = .ok (.iconst 5, 1) := by decide +kernel
theorem dX8_appeal_25 : decode cX8_appeal 25 = .ok (.invokevirtual 59, 3) := by decide +kernel
theorem dX8_appeal_28 : decode cX8_appeal 28 = .ok (.iconst 2, 1) := by decide +kernel
theorem dX8_appeal_29 : decode cX8_appeal 29 = .ok (.if_icmp .ne 6, 3) := by decide +kernel
theorem dX8_appeal_32 : decode cX8_appeal 32 = .ok (.bipush (-3), 2) := by decide +kernel
theorem dX8_appeal_34 : decode cX8_appeal 34 = .ok (.ireturn, 1) := by decide +kernel
theorem dX8_appeal_35 : decode cX8_appeal 35 = .ok (.aload_n 0, 1) := by decide +kernel
theorem dX8_appeal_36 : decode cX8_appeal 36 = .ok (.invokevirtual 52, 3) := by decide +kernel
theorem dX8_appeal_39 : decode cX8_appeal 39 = .ok (.aload_n 0, 1) := by decide +kernel
theorem dX8_appeal_40 : decode cX8_appeal 40 = .ok (.iload_n 1, 1) := by decide +kernel
theorem dX8_appeal_41 : decode cX8_appeal 41 = .ok (.iload_n 2, 1) := by decide +kernel
theorem dX8_appeal_42 : decode cX8_appeal 42 = .ok (.invokevirtual 126, 3) := by decide +kernel
theorem dX8_appeal_45 : decode cX8_appeal 45 = .ok (.istore_n 3, 1) := by decide +kernel
theorem dX8_appeal_46 : decode cX8_appeal 46 = .ok (.aload_n 0, 1) := by decide +kernel
theorem dX8_appeal_47 : decode cX8_appeal 47 = .ok (.iload_n 1, 1) := by decide +kernel
theorem dX8_appeal_48 : decode cX8_appeal 48 = .ok (.iconst 5, 1) := by decide +kernel
theorem dX8_appeal_49 : decode cX8_appeal 49 = .ok (.aload_n 0, 1) := by decide +kernel
theorem dX8_appeal_50 : decode cX8_appeal 50 = .ok (.iload_n 1, 1) := by decide +kernel
theorem dX8_appeal_51 : decode cX8_appeal 51 = .ok (.iconst 5, 1) := by decide +kernel
theorem dX8_appeal_52 : decode cX8_appeal 52 = .ok (.invokevirtual 59, 3) := by decide +kernel
theorem dX8_appeal_55 : decode cX8_appeal 55 = .ok (.iconst 1, 1) := by decide +kernel
theorem dX8_appeal_56 : decode cX8_appeal 56 = .ok (.iadd, 1) := by decide +kernel
theorem dX8_appeal_57 : decode cX8_appeal 57 = .ok (.invokevirtual 88, 3) := by decide +kernel
theorem dX8_appeal_60 : decode cX8_appeal 60 = .ok (.aload_n 0, 1) := by decide +kernel
theorem dX8_appeal_61 : decode cX8_appeal 61 = .ok (.iload_n 1, 1) := by decide +kernel
theorem dX8_appeal_62 : decode cX8_appeal 62 = .ok (.iconst 3, 1) := by decide +kernel
theorem dX8_appeal_63 : decode cX8_appeal 63 = .ok (.aload_n 0, 1) := by decide +kernel
theorem dX8_appeal_64 : decode cX8_appeal 64 = .ok (.iload_n 1, 1) := by decide +kernel
theorem dX8_appeal_65 : decode cX8_appeal 65 = .ok (.iconst 3, 1) := by decide +kernel
theorem dX8_appeal_66 : decode cX8_appeal 66 = .ok (.invokevirtual 59, 3) := by decide +kernel
theorem dX8_appeal_69 : decode cX8_appeal 69 = .ok (.iload_n 3, 1) := by decide +kernel
theorem dX8_appeal_70 : decode cX8_appeal 70 = .ok (.ifCond .eq 9, 3) := by decide +kernel
theorem dX8_appeal_73 : decode cX8_appeal 73 = .ok (.iconst 1, 1) := by decide +kernel
theorem dX8_appeal_74 : decode cX8_appeal 74 = .ok (.iload_n 2, 1) := by decide +kernel
theorem dX8_appeal_75 : decode cX8_appeal 75 = .ok (.iadd, 1) := by decide +kernel
theorem dX8_appeal_76 : decode cX8_appeal 76 = .ok (.goto 4, 3) := by decide +kernel
theorem dX8_appeal_79 : decode cX8_appeal 79 = .ok (.iconst 0, 1) := by decide +kernel
theorem dX8_appeal_80 : decode cX8_appeal 80 = .ok (.iadd, 1) := by decide +kernel
theorem dX8_appeal_81 : decode cX8_appeal 81 = .ok (.invokevirtual 88, 3) := by decide +kernel
theorem dX8_appeal_84 : decode cX8_appeal 84 = .ok (.aload_n 0, 1) := by decide +kernel
theorem dX8_appeal_85 : decode cX8_appeal 85 = .ok (.getfield 7, 3) := by decide +kernel
theorem dX8_appeal_88 : decode cX8_appeal 88 = .ok (.iconst 3, 1) := by decide +kernel
theorem dX8_appeal_89 : decode cX8_appeal 89 = .ok (.dup2, 1) := by decide +kernel
theorem dX8_appeal_90 : decode cX8_appeal 90 = .ok (.iaload, 1) := by decide +kernel
theorem dX8_appeal_91 : decode cX8_appeal 91 = .ok (.iconst 1, 1) := by decide +kernel
theorem dX8_appeal_92 : decode cX8_appeal 92 = .ok (.iadd, 1) := by decide +kernel
theorem dX8_appeal_93 : decode cX8_appeal 93 = .ok (.iastore, 1) := by decide +kernel
theorem dX8_appeal_94 : decode cX8_appeal 94 = .ok (.aload_n 0, 1) := by decide +kernel
theorem dX8_appeal_95 : decode cX8_appeal 95 = .ok (.getfield 7, 3) := by decide +kernel
theorem dX8_appeal_98 : decode cX8_appeal 98 = .ok (.iconst 4, 1) := by decide +kernel
theorem dX8_appeal_99 : decode cX8_appeal 99 = .ok (.dup2, 1) := by decide +kernel
theorem dX8_appeal_100 : decode cX8_appeal 100 = .ok (.iaload, 1) := by decide +kernel
theorem dX8_appeal_101 : decode cX8_appeal 101 = .ok (.iload_n 3, 1) := by decide +kernel
theorem dX8_appeal_102 : decode cX8_appeal 102 = .ok (.ifCond .eq 7, 3) := by decide +kernel
theorem dX8_appeal_105 : decode cX8_appeal 105 = .ok (.iconst 0, 1) := by decide +kernel
theorem dX8_appeal_106 : decode cX8_appeal 106 = .ok (.goto 4, 3) := by decide +kernel
theorem dX8_appeal_109 : decode cX8_appeal 109 = .ok (.iconst 1, 1) := by decide +kernel
theorem dX8_appeal_110 : decode cX8_appeal 110 = .ok (.iadd, 1) := by decide +kernel
theorem dX8_appeal_111 : decode cX8_appeal 111 = .ok (.iastore, 1) := by decide +kernel
theorem dX8_appeal_112 : decode cX8_appeal 112 = .ok (.aload_n 0, 1) := by decide +kernel
theorem dX8_appeal_113 : decode cX8_appeal 113 = .ok (.iload_n 1, 1) := by decide +kernel
theorem dX8_appeal_114 : decode cX8_appeal 114 = .ok (.iconst 3, 1) := by decide +kernel
theorem dX8_appeal_115 : decode cX8_appeal 115 = .ok (.invokevirtual 59, 3) := by decide +kernel
theorem dX8_appeal_118 : decode cX8_appeal 118 = .ok (.iload_n 3, 1) := by decide +kernel
theorem dX8_appeal_119 : decode cX8_appeal 119 = .ok (.ifCond .eq 8, 3) := by decide +kernel
theorem dX8_appeal_122 : decode cX8_appeal 122 = .ok (.bipush 100, 2) := by decide +kernel
theorem dX8_appeal_124 : decode cX8_appeal 124 = .ok (.goto 4, 3) := by decide +kernel
theorem dX8_appeal_127 : decode cX8_appeal 127 = .ok (.iconst 0, 1) := by decide +kernel
theorem dX8_appeal_128 : decode cX8_appeal 128 = .ok (.iadd, 1) := by decide +kernel
theorem dX8_appeal_129 : decode cX8_appeal 129 = .ok (.ireturn, 1) := by decide +kernel
set_option maxRecDepth 20000 in
theorem ggX8_moveOut_X8_isHome : GoodIn wsX8_moveOut wsX8_isHome := goodIn_r _ [5, 6, 7, 8, 4, 9, 27, 28, 29, 30, 31, 32, 33, 34, 35, 36, 37, 38, 39] (by decide +kernel) (by decide +kernel)
set_option maxRecDepth 20000 in
theorem gX8_moveOut_X8_isHome : GoodIn wsX8_moveOut (wsV RX8 92 RX8 yX8_isHome wsX8_isHome) := goodIn_app (goodIn_of _ (by decide +kernel)) ggX8_moveOut_X8_isHome
set_option maxRecDepth 20000 in
theorem ggX8_moveOut_X8_of : GoodIn wsX8_moveOut wsX8_of := goodIn_r _ [13, 6, 27, 28, 29, 30, 31, 32, 33, 34, 35, 36, 37, 38, 39] (by decide +kernel) (by decide +kernel)
set_option maxRecDepth 20000 in
theorem gX8_moveOut_X8_of : GoodIn wsX8_moveOut (wsV RX8 59 RX8 yX8_of wsX8_of) := goodIn_app (goodIn_of _ (by decide +kernel)) ggX8_moveOut_X8_of
set_option maxRecDepth 20000 in
theorem ggX8_moveOut_X8_records : GoodIn wsX8_moveOut wsX8_records := goodIn_r _ [17, 18, 19, 6, 20, 21, 4, 22, 27, 28, 29, 30, 31, 32, 33, 34, 35, 36, 37, 38, 39] (by decide +kernel) (by decide +kernel)
set_option maxRecDepth 20000 in
theorem gX8_moveOut_X8_records : GoodIn wsX8_moveOut (wsV RX8 52 RX8 yX8_records wsX8_records) := goodIn_app (goodIn_of _ (by decide +kernel)) ggX8_moveOut_X8_records
set_option maxRecDepth 20000 in
theorem ggX8_moveOut_X8_puts : GoodIn wsX8_moveOut wsX8_puts := goodIn_r _ [26, 6, 27, 28, 29, 30, 31, 32, 33, 34, 35, 36, 37, 38, 39] (by decide +kernel) (by decide +kernel)
set_option maxRecDepth 20000 in
theorem gX8_moveOut_X8_puts : GoodIn wsX8_moveOut (wsV RX8 88 RX8 yX8_puts wsX8_puts) := goodIn_app (goodIn_of _ (by decide +kernel)) ggX8_moveOut_X8_puts
theorem dX8_moveOut_0 : decode cX8_moveOut 0 = .ok (.aload_n 0, 1) := by decide +kernel
theorem dX8_moveOut_1 : decode cX8_moveOut 1 = .ok (.iload_n 1, 1) := by decide +kernel
theorem dX8_moveOut_2 : decode cX8_moveOut 2 = .ok (.invokevirtual 92, 3) := by decide +kernel
theorem dX8_moveOut_5 : decode cX8_moveOut 5 = .ok (.ifCond .ne 5, 3) := by decide +kernel
theorem dX8_moveOut_8 : decode cX8_moveOut 8 = .ok (.iconst (-1), 1) := by decide +kernel
theorem dX8_moveOut_9 : decode cX8_moveOut 9 = .ok (.ireturn, 1) := by decide +kernel
theorem dX8_moveOut_10 : decode cX8_moveOut 10 = .ok (.aload_n 0, 1) := by decide +kernel
theorem dX8_moveOut_11 : decode cX8_moveOut 11 = .ok (.iload_n 1, 1) := by decide +kernel
theorem dX8_moveOut_12 : decode cX8_moveOut 12 = .ok (.iconst 4, 1) := by decide +kernel
theorem dX8_moveOut_13 : decode cX8_moveOut 13 = .ok (.invokevirtual 59, 3) := by decide +kernel
theorem dX8_moveOut_16 : decode cX8_moveOut 16 = .ok (.istore_n 2, 1) := by decide +kernel
theorem dX8_moveOut_17 : decode cX8_moveOut 17 = .ok (.iload_n 2, 1) := by decide +kernel
theorem dX8_moveOut_18 : decode cX8_moveOut 18 = .ok (.bipush (-5), 2) := by decide +kernel
theorem dX8_moveOut_20 : decode cX8_moveOut 20 = .ok (.if_icmp .ne 6, 3) := by decide +kernel
theorem dX8_moveOut_23 : decode cX8_moveOut 23 = .ok (.bipush (-5), 2) := by decide +kernel
theorem dX8_moveOut_25 : decode cX8_moveOut 25 = .ok (.ireturn, 1) := by decide +kernel
theorem dX8_moveOut_26 : decode cX8_moveOut 26 = .ok (.aload_n 0, 1) := by decide +kernel
theorem dX8_moveOut_27 : decode cX8_moveOut 27 = .ok (.invokevirtual 52, 3) := by decide +kernel
theorem dX8_moveOut_30 : decode cX8_moveOut 30 = .ok (.aload_n 0, 1) := by decide +kernel
theorem dX8_moveOut_31 : decode cX8_moveOut 31 = .ok (.iload_n 1, 1) := by decide +kernel
theorem dX8_moveOut_32 : decode cX8_moveOut 32 = .ok (.iconst 4, 1) := by decide +kernel
theorem dX8_moveOut_33 : decode cX8_moveOut 33 = .ok (.bipush (-5), 2) := by decide +kernel
theorem dX8_moveOut_35 : decode cX8_moveOut 35 = .ok (.invokevirtual 88, 3) := by decide +kernel
theorem dX8_moveOut_38 : decode cX8_moveOut 38 = .ok (.iload_n 2, 1) := by decide +kernel
theorem dX8_moveOut_39 : decode cX8_moveOut 39 = .ok (.ireturn, 1) := by decide +kernel
set_option maxRecDepth 20000 in
theorem ggX8_pointed_X8_of : GoodIn wsX8_pointed wsX8_of := goodIn_r _ [5, 6, 31, 32, 33, 34, 35, 36, 37, 38, 39, 40, 41, 42, 43] (by decide +kernel) (by decide +kernel)
set_option maxRecDepth 20000 in
theorem gX8_pointed_X8_of : GoodIn wsX8_pointed (wsV RX8 59 RX8 yX8_of wsX8_of) := goodIn_app (goodIn_of _ (by decide +kernel)) ggX8_pointed_X8_of
set_option maxRecDepth 20000 in
theorem ggX8_pointed_X8_holder : GoodIn wsX8_pointed wsX8_holder := goodIn_r _ [10, 6, 1, 2, 3, 4, 5, 31, 32, 33, 34, 35, 36, 37, 38, 39, 40, 41, 42, 43] (by decide +kernel) (by decide +kernel)
set_option maxRecDepth 20000 in
theorem gX8_pointed_X8_holder : GoodIn wsX8_pointed (wsV RX8 129 RX8 yX8_holder wsX8_holder) := goodIn_app (goodIn_of _ (by decide +kernel)) ggX8_pointed_X8_holder
set_option maxRecDepth 20000 in
theorem ggX8_pointed_X8_isEligible : GoodIn wsX8_pointed wsX8_isEligible := goodIn_r _ [14, 1, 2, 3, 4, 5, 6, 15, 16, 17, 18, 19, 20, 21, 22, 31, 32, 33, 34, 35, 36, 37, 38, 39, 40, 41, 42, 43] (by decide +kernel) (by decide +kernel)
set_option maxRecDepth 20000 in
theorem gX8_pointed_X8_isEligible : GoodIn wsX8_pointed (wsV RX8 105 RX8 yX8_isEligible wsX8_isEligible) := goodIn_app (goodIn_of _ (by decide +kernel)) ggX8_pointed_X8_isEligible
set_option maxRecDepth 20000 in
theorem ggX8_pointed_X8_wishesMore : GoodIn wsX8_pointed wsX8_wishesMore := goodIn_r _ [26, 27, 28, 29, 4, 30, 1, 2, 3, 5, 6, 31, 32, 33, 34, 35, 36, 37, 38, 39, 40, 41, 42, 43] (by decide +kernel) (by decide +kernel)
set_option maxRecDepth 20000 in
theorem gX8_pointed_X8_wishesMore : GoodIn wsX8_pointed (wsV RX8 117 RX8 yX8_wishesMore wsX8_wishesMore) := goodIn_app (goodIn_of _ (by decide +kernel)) ggX8_pointed_X8_wishesMore
theorem dX8_pointed_0 : decode cX8_pointed 0 = .ok (.bipush (-5), 2) := by decide +kernel
theorem dX8_pointed_2 : decode cX8_pointed 2 = .ok (.istore_n 2, 1) := by decide +kernel
theorem dX8_pointed_3 : decode cX8_pointed 3 = .ok (.aload_n 0, 1) := by decide +kernel
theorem dX8_pointed_4 : decode cX8_pointed 4 = .ok (.iload_n 1, 1) := by decide +kernel
theorem dX8_pointed_5 : decode cX8_pointed 5 = .ok (.bipush 7, 2) := by decide +kernel
theorem dX8_pointed_7 : decode cX8_pointed 7 = .ok (.invokevirtual 59, 3) := by decide +kernel
theorem dX8_pointed_10 : decode cX8_pointed 10 = .ok (.iconst 1, 1) := by decide +kernel
theorem dX8_pointed_11 : decode cX8_pointed 11 = .ok (.isub, 1) := by decide +kernel
theorem dX8_pointed_12 : decode cX8_pointed 12 = .ok (.istore_n 3, 1) := by decide +kernel
theorem dX8_pointed_13 : decode cX8_pointed 13 = .ok (.iload_n 3, 1) := by decide +kernel
theorem dX8_pointed_14 : decode cX8_pointed 14 = .ok (.ifCond .lt 73, 3) := by decide +kernel
theorem dX8_pointed_17 : decode cX8_pointed 17 = .ok (.aload_n 0, 1) := by decide +kernel
theorem dX8_pointed_18 : decode cX8_pointed 18 = .ok (.iload_n 1, 1) := by decide +kernel
theorem dX8_pointed_19 : decode cX8_pointed 19 = .ok (.iconst 4, 1) := by decide +kernel
theorem dX8_pointed_20 : decode cX8_pointed 20 = .ok (.invokevirtual 59, 3) := by decide +kernel
theorem dX8_pointed_23 : decode cX8_pointed 23 = .ok (.bipush (-5), 2) := by decide +kernel
theorem dX8_pointed_25 : decode cX8_pointed 25 = .ok (.if_icmp .eq 62, 3) := by decide +kernel
theorem dX8_pointed_28 : decode cX8_pointed 28 = .ok (.aload_n 0, 1) := by decide +kernel
theorem dX8_pointed_29 : decode cX8_pointed 29 = .ok (.iload_n 1, 1) := by decide +kernel
theorem dX8_pointed_30 : decode cX8_pointed 30 = .ok (.bipush 8, 2) := by decide +kernel
theorem dX8_pointed_32 : decode cX8_pointed 32 = .ok (.iload_n 3, 1) := by decide +kernel
theorem dX8_pointed_33 : decode cX8_pointed 33 = .ok (.iadd, 1) := by decide +kernel
theorem dX8_pointed_34 : decode cX8_pointed 34 = .ok (.invokevirtual 59, 3) := by decide +kernel
theorem dX8_pointed_37 : decode cX8_pointed 37 = .ok (.istore 4, 2) := by decide +kernel
theorem dX8_pointed_39 : decode cX8_pointed 39 = .ok (.aload_n 0, 1) := by decide +kernel
theorem dX8_pointed_40 : decode cX8_pointed 40 = .ok (.iload 4, 2) := by decide +kernel
theorem dX8_pointed_42 : decode cX8_pointed 42 = .ok (.invokevirtual 129, 3) := by decide +kernel
theorem dX8_pointed_45 : decode cX8_pointed 45 = .ok (.istore 5, 2) := by decide +kernel
theorem dX8_pointed_47 : decode cX8_pointed 47 = .ok (.iload 5, 2) := by decide +kernel
theorem dX8_pointed_49 : decode cX8_pointed 49 = .ok (.bipush (-5), 2) := by decide +kernel
theorem dX8_pointed_51 : decode cX8_pointed 51 = .ok (.if_icmp .eq 28, 3) := by decide +kernel
theorem dX8_pointed_54 : decode cX8_pointed 54 = .ok (.aload_n 0, 1) := by decide +kernel
theorem dX8_pointed_55 : decode cX8_pointed 55 = .ok (.iload_n 1, 1) := by decide +kernel
theorem dX8_pointed_56 : decode cX8_pointed 56 = .ok (.iload 4, 2) := by decide +kernel
theorem dX8_pointed_58 : decode cX8_pointed 58 = .ok (.invokevirtual 105, 3) := by decide +kernel
theorem dX8_pointed_61 : decode cX8_pointed 61 = .ok (.ifCond .eq 18, 3) := by decide +kernel
theorem dX8_pointed_64 : decode cX8_pointed 64 = .ok (.aload_n 0, 1) := by decide +kernel
theorem dX8_pointed_65 : decode cX8_pointed 65 = .ok (.iload_n 1, 1) := by decide +kernel
theorem dX8_pointed_66 : decode cX8_pointed 66 = .ok (.iload 4, 2) := by decide +kernel
theorem dX8_pointed_68 : decode cX8_pointed 68 = .ok (.invokevirtual 117, 3) := by decide +kernel
theorem dX8_pointed_71 : decode cX8_pointed 71 = .ok (.ifCond .eq 8, 3) := by decide +kernel
theorem dX8_pointed_74 : decode cX8_pointed 74 = .ok (.iload 5, 2) := by decide +kernel
theorem dX8_pointed_76 : decode cX8_pointed 76 = .ok (.goto 4, 3) := by decide +kernel
theorem dX8_pointed_79 : decode cX8_pointed 79 = .ok (.iload_n 2, 1) := by decide +kernel
theorem dX8_pointed_80 : decode cX8_pointed 80 = .ok (.istore_n 2, 1) := by decide +kernel
theorem dX8_pointed_81 : decode cX8_pointed 81 = .ok (.iinc 3 (-1), 3) := by decide +kernel
theorem dX8_pointed_84 : decode cX8_pointed 84 = .ok (.goto (-71), 3) := by decide +kernel
theorem dX8_pointed_87 : decode cX8_pointed 87 = .ok (.iload_n 2, 1) := by decide +kernel
theorem dX8_pointed_88 : decode cX8_pointed 88 = .ok (.ireturn, 1) := by decide +kernel
set_option maxRecDepth 20000 in
theorem ggX8_isInRing_X8_pointed : GoodIn wsX8_isInRing wsX8_pointed := goodIn_r _ [5, 6, 7, 8, 4, 9, 10, 11, 12, 13, 14, 15, 16, 17, 18, 19, 20, 21, 22, 23, 24, 25, 26, 27, 28, 29, 30, 31, 32, 33, 34, 35, 36, 37, 38, 39, 40, 41, 42, 43, 44, 45, 46, 47] (by decide +kernel) (by decide +kernel)
set_option maxRecDepth 20000 in
theorem gX8_isInRing_X8_pointed : GoodIn wsX8_isInRing (wsV RX8 132 RX8 yX8_pointed wsX8_pointed) := goodIn_app (goodIn_of _ (by decide +kernel)) ggX8_isInRing_X8_pointed
theorem dX8_isInRing_0 : decode cX8_isInRing 0 = .ok (.aload_n 0, 1) := by decide +kernel
theorem dX8_isInRing_1 : decode cX8_isInRing 1 = .ok (.iload_n 1, 1) := by decide +kernel
theorem dX8_isInRing_2 : decode cX8_isInRing 2 = .ok (.invokevirtual 132, 3) := by decide +kernel
theorem dX8_isInRing_5 : decode cX8_isInRing 5 = .ok (.istore_n 2, 1) := by decide +kernel
theorem dX8_isInRing_6 : decode cX8_isInRing 6 = .ok (.iconst 0, 1) := by decide +kernel
theorem dX8_isInRing_7 : decode cX8_isInRing 7 = .ok (.istore_n 3, 1) := by decide +kernel
theorem dX8_isInRing_8 : decode cX8_isInRing 8 = .ok (.iload_n 3, 1) := by decide +kernel
theorem dX8_isInRing_9 : decode cX8_isInRing 9 = .ok (.bipush 12, 2) := by decide +kernel
theorem dX8_isInRing_11 : decode cX8_isInRing 11 = .ok (.if_icmp .ge 26, 3) := by decide +kernel
theorem dX8_isInRing_14 : decode cX8_isInRing 14 = .ok (.iload_n 2, 1) := by decide +kernel
theorem dX8_isInRing_15 : decode cX8_isInRing 15 = .ok (.bipush (-5), 2) := by decide +kernel
theorem dX8_isInRing_17 : decode cX8_isInRing 17 = .ok (.if_icmp .eq 20, 3) := by decide +kernel
theorem dX8_isInRing_20 : decode cX8_isInRing 20 = .ok (.iload_n 2, 1) := by decide +kernel
theorem dX8_isInRing_21 : decode cX8_isInRing 21 = .ok (.iload_n 1, 1) := by decide +kernel
theorem dX8_isInRing_22 : decode cX8_isInRing 22 = .ok (.if_icmp .eq 15, 3) := by decide +kernel
theorem dX8_isInRing_25 : decode cX8_isInRing 25 = .ok (.aload_n 0, 1) := by decide +kernel
theorem dX8_isInRing_26 : decode cX8_isInRing 26 = .ok (.iload_n 2, 1) := by decide +kernel
theorem dX8_isInRing_27 : decode cX8_isInRing 27 = .ok (.invokevirtual 132, 3) := by decide +kernel
theorem dX8_isInRing_30 : decode cX8_isInRing 30 = .ok (.istore_n 2, 1) := by decide +kernel
theorem dX8_isInRing_31 : decode cX8_isInRing 31 = .ok (.iinc 3 1, 3) := by decide +kernel
theorem dX8_isInRing_34 : decode cX8_isInRing 34 = .ok (.goto (-26), 3) := by decide +kernel
theorem dX8_isInRing_37 : decode cX8_isInRing 37 = .ok (.iload_n 2, 1) := by decide +kernel
theorem dX8_isInRing_38 : decode cX8_isInRing 38 = .ok (.iload_n 1, 1) := by decide +kernel
theorem dX8_isInRing_39 : decode cX8_isInRing 39 = .ok (.if_icmp .ne 7, 3) := by decide +kernel
theorem dX8_isInRing_42 : decode cX8_isInRing 42 = .ok (.iconst 1, 1) := by decide +kernel
theorem dX8_isInRing_43 : decode cX8_isInRing 43 = .ok (.goto 4, 3) := by decide +kernel
theorem dX8_isInRing_46 : decode cX8_isInRing 46 = .ok (.iconst 0, 1) := by decide +kernel
theorem dX8_isInRing_47 : decode cX8_isInRing 47 = .ok (.ireturn, 1) := by decide +kernel
set_option maxRecDepth 20000 in
theorem ggX8_lowestInRing_X8_isInRing : GoodIn wsX8_lowestInRing wsX8_isInRing := goodIn_r _ [6, 7, 8, 9, 5, 10, 11, 12, 13, 14, 1, 15, 16, 17, 18, 19, 20, 21, 22, 23, 24, 25, 26, 27, 28, 29, 30, 31, 32, 33, 34, 35, 36, 37, 38, 39, 40, 41, 42, 43, 44, 45, 46, 47, 48, 49, 50, 51] (by decide +kernel) (by decide +kernel)
set_option maxRecDepth 20000 in
theorem gX8_lowestInRing_X8_isInRing : GoodIn wsX8_lowestInRing (wsV RX8 135 RX8 yX8_isInRing wsX8_isInRing) := goodIn_app (goodIn_of _ (by decide +kernel)) ggX8_lowestInRing_X8_isInRing
theorem dX8_lowestInRing_0 : decode cX8_lowestInRing 0 = .ok (.iconst 0, 1) := by decide +kernel
theorem dX8_lowestInRing_1 : decode cX8_lowestInRing 1 = .ok (.istore_n 1, 1) := by decide +kernel
theorem dX8_lowestInRing_2 : decode cX8_lowestInRing 2 = .ok (.iload_n 1, 1) := by decide +kernel
theorem dX8_lowestInRing_3 : decode cX8_lowestInRing 3 = .ok (.aload_n 0, 1) := by decide +kernel
theorem dX8_lowestInRing_4 : decode cX8_lowestInRing 4 = .ok (.getfield 7, 3) := by decide +kernel
theorem dX8_lowestInRing_7 : decode cX8_lowestInRing 7 = .ok (.iconst 1, 1) := by decide +kernel
theorem dX8_lowestInRing_8 : decode cX8_lowestInRing 8 = .ok (.iaload, 1) := by decide +kernel
theorem dX8_lowestInRing_9 : decode cX8_lowestInRing 9 = .ok (.if_icmp .ge 19, 3) := by decide +kernel
theorem dX8_lowestInRing_12 : decode cX8_lowestInRing 12 = .ok (.aload_n 0, 1) := by decide +kernel
theorem dX8_lowestInRing_13 : decode cX8_lowestInRing 13 = .ok (.iload_n 1, 1) := by decide +kernel
theorem dX8_lowestInRing_14 : decode cX8_lowestInRing 14 = .ok (.invokevirtual 135, 3) := by decide +kernel
theorem dX8_lowestInRing_17 : decode cX8_lowestInRing 17 = .ok (.ifCond .eq 5, 3) := by decide +kernel
theorem dX8_lowestInRing_20 : decode cX8_lowestInRing 20 = .ok (.iload_n 1, 1) := by decide +kernel
theorem dX8_lowestInRing_21 : decode cX8_lowestInRing 21 = .ok (.ireturn, 1) := by decide +kernel
theorem dX8_lowestInRing_22 : decode cX8_lowestInRing 22 = .ok (.iinc 1 1, 3) := by decide +kernel
theorem dX8_lowestInRing_25 : decode cX8_lowestInRing 25 = .ok (.goto (-23), 3) := by decide +kernel
theorem dX8_lowestInRing_28 : decode cX8_lowestInRing 28 = .ok (.bipush (-5), 2) := by decide +kernel
theorem dX8_lowestInRing_30 : decode cX8_lowestInRing 30 = .ok (.ireturn, 1) := by decide +kernel
set_option maxRecDepth 20000 in
theorem ggX8_swaps_X8_of : GoodIn wsX8_swaps wsX8_of := goodIn_r _ [7, 8, 41, 42, 43, 44, 45, 46, 47, 48, 49, 50, 51, 52, 53] (by decide +kernel) (by decide +kernel)
set_option maxRecDepth 20000 in
theorem gX8_swaps_X8_of : GoodIn wsX8_swaps (wsV RX8 59 RX8 yX8_of wsX8_of) := goodIn_app (goodIn_of _ (by decide +kernel)) ggX8_swaps_X8_of
set_option maxRecDepth 20000 in
theorem ggX8_swaps_X8_pointed : GoodIn wsX8_swaps wsX8_pointed := goodIn_r _ [12, 3, 4, 5, 6, 7, 8, 13, 14, 15, 16, 17, 18, 19, 20, 21, 22, 23, 24, 25, 26, 27, 28, 29, 30, 31, 32, 33, 34, 35, 36, 41, 42, 43, 44, 45, 46, 47, 48, 49, 50, 51, 52, 53] (by decide +kernel) (by decide +kernel)
set_option maxRecDepth 20000 in
theorem gX8_swaps_X8_pointed : GoodIn wsX8_swaps (wsV RX8 132 RX8 yX8_pointed wsX8_pointed) := goodIn_app (goodIn_of _ (by decide +kernel)) ggX8_swaps_X8_pointed
set_option maxRecDepth 20000 in
theorem ggX8_swaps_X8_puts : GoodIn wsX8_swaps wsX8_puts := goodIn_r _ [40, 8, 41, 42, 43, 44, 45, 46, 47, 48, 49, 50, 51, 52, 53] (by decide +kernel) (by decide +kernel)
set_option maxRecDepth 20000 in
theorem gX8_swaps_X8_puts : GoodIn wsX8_swaps (wsV RX8 88 RX8 yX8_puts wsX8_puts) := goodIn_app (goodIn_of _ (by decide +kernel)) ggX8_swaps_X8_puts
theorem dX8_swaps_0 : decode cX8_swaps 0 = .ok (.iconst 0, 1) := by decide +kernel
theorem dX8_swaps_1 : decode cX8_swaps 1 = .ok (.istore_n 2, 1) := by decide +kernel
theorem dX8_swaps_2 : decode cX8_swaps 2 = .ok (.iload_n 1, 1) := by decide +kernel
theorem dX8_swaps_3 : decode cX8_swaps 3 = .ok (.istore_n 3, 1) := by decide +kernel
theorem dX8_swaps_4 : decode cX8_swaps 4 = .ok (.iload_n 2, 1) := by decide +kernel
theorem dX8_swaps_5 : decode cX8_swaps 5 = .ok (.ifCond .eq 8, 3) := by decide +kernel
theorem dX8_swaps_8 : decode cX8_swaps 8 = .ok (.iload_n 3, 1) := by decide +kernel
theorem dX8_swaps_9 : decode cX8_swaps 9 = .ok (.iload_n 1, 1) := by decide +kernel
theorem dX8_swaps_10 : decode cX8_swaps 10 = .ok (.if_icmp .eq 34, 3) := by decide +kernel
theorem dX8_swaps_13 : decode cX8_swaps 13 = .ok (.aload_n 0, 1) := by decide +kernel
theorem dX8_swaps_14 : decode cX8_swaps 14 = .ok (.getfield 23, 3) := by decide +kernel
theorem dX8_swaps_17 : decode cX8_swaps 17 = .ok (.iload_n 2, 1) := by decide +kernel
theorem dX8_swaps_18 : decode cX8_swaps 18 = .ok (.iload_n 3, 1) := by decide +kernel
theorem dX8_swaps_19 : decode cX8_swaps 19 = .ok (.iastore, 1) := by decide +kernel
theorem dX8_swaps_20 : decode cX8_swaps 20 = .ok (.aload_n 0, 1) := by decide +kernel
theorem dX8_swaps_21 : decode cX8_swaps 21 = .ok (.getfield 26, 3) := by decide +kernel
theorem dX8_swaps_24 : decode cX8_swaps 24 = .ok (.iload_n 2, 1) := by decide +kernel
theorem dX8_swaps_25 : decode cX8_swaps 25 = .ok (.aload_n 0, 1) := by decide +kernel
theorem dX8_swaps_26 : decode cX8_swaps 26 = .ok (.iload_n 3, 1) := by decide +kernel
theorem dX8_swaps_27 : decode cX8_swaps 27 = .ok (.iconst 4, 1) := by decide +kernel
theorem dX8_swaps_28 : decode cX8_swaps 28 = .ok (.invokevirtual 59, 3) := by decide +kernel
theorem dX8_swaps_31 : decode cX8_swaps 31 = .ok (.iastore, 1) := by decide +kernel
theorem dX8_swaps_32 : decode cX8_swaps 32 = .ok (.aload_n 0, 1) := by decide +kernel
theorem dX8_swaps_33 : decode cX8_swaps 33 = .ok (.iload_n 3, 1) := by decide +kernel
theorem dX8_swaps_34 : decode cX8_swaps 34 = .ok (.invokevirtual 132, 3) := by decide +kernel
theorem dX8_swaps_37 : decode cX8_swaps 37 = .ok (.istore_n 3, 1) := by decide +kernel
theorem dX8_swaps_38 : decode cX8_swaps 38 = .ok (.iinc 2 1, 3) := by decide +kernel
theorem dX8_swaps_41 : decode cX8_swaps 41 = .ok (.goto (-37), 3) := by decide +kernel
theorem dX8_swaps_44 : decode cX8_swaps 44 = .ok (.iconst 0, 1) := by decide +kernel
theorem dX8_swaps_45 : decode cX8_swaps 45 = .ok (.istore 4, 2) := by decide +kernel
theorem dX8_swaps_47 : decode cX8_swaps 47 = .ok (.iload 4, 2) := by decide +kernel
theorem dX8_swaps_49 : decode cX8_swaps 49 = .ok (.iload_n 2, 1) := by decide +kernel
theorem dX8_swaps_50 : decode cX8_swaps 50 = .ok (.if_icmp .ge 32, 3) := by decide +kernel
theorem dX8_swaps_53 : decode cX8_swaps 53 = .ok (.aload_n 0, 1) := by decide +kernel
theorem dX8_swaps_54 : decode cX8_swaps 54 = .ok (.aload_n 0, 1) := by decide +kernel
theorem dX8_swaps_55 : decode cX8_swaps 55 = .ok (.getfield 23, 3) := by decide +kernel
theorem dX8_swaps_58 : decode cX8_swaps 58 = .ok (.iload 4, 2) := by decide +kernel
theorem dX8_swaps_60 : decode cX8_swaps 60 = .ok (.iaload, 1) := by decide +kernel
theorem dX8_swaps_61 : decode cX8_swaps 61 = .ok (.iconst 4, 1) := by decide +kernel
theorem dX8_swaps_62 : decode cX8_swaps 62 = .ok (.aload_n 0, 1) := by decide +kernel
theorem dX8_swaps_63 : decode cX8_swaps 63 = .ok (.getfield 26, 3) := by decide +kernel
theorem dX8_swaps_66 : decode cX8_swaps 66 = .ok (.iload 4, 2) := by decide +kernel
theorem dX8_swaps_68 : decode cX8_swaps 68 = .ok (.iconst 1, 1) := by decide +kernel
theorem dX8_swaps_69 : decode cX8_swaps 69 = .ok (.iadd, 1) := by decide +kernel
theorem dX8_swaps_70 : decode cX8_swaps 70 = .ok (.iload_n 2, 1) := by decide +kernel
theorem dX8_swaps_71 : decode cX8_swaps 71 = .ok (.irem, 1) := by decide +kernel
theorem dX8_swaps_72 : decode cX8_swaps 72 = .ok (.iaload, 1) := by decide +kernel
theorem dX8_swaps_73 : decode cX8_swaps 73 = .ok (.invokevirtual 88, 3) := by decide +kernel
theorem dX8_swaps_76 : decode cX8_swaps 76 = .ok (.iinc 4 1, 3) := by decide +kernel
theorem dX8_swaps_79 : decode cX8_swaps 79 = .ok (.goto (-32), 3) := by decide +kernel
theorem dX8_swaps_82 : decode cX8_swaps 82 = .ok (.iload_n 2, 1) := by decide +kernel
theorem dX8_swaps_83 : decode cX8_swaps 83 = .ok (.ireturn, 1) := by decide +kernel
set_option maxRecDepth 20000 in
theorem ggX8_swap_X8_lowestInRing : GoodIn wsX8_swap wsX8_lowestInRing := goodIn_r _ [5, 6, 7, 8, 9, 4, 10, 11, 12, 13, 14, 15, 16, 17, 18, 19, 20, 21, 22, 23, 24, 25, 26, 27, 28, 29, 30, 31, 32, 33, 34, 35, 36, 37, 38, 39, 40, 41, 42, 62, 63, 64, 65, 66, 67, 68, 69, 70, 71, 72, 73, 74] (by decide +kernel) (by decide +kernel)
set_option maxRecDepth 20000 in
theorem gX8_swap_X8_lowestInRing : GoodIn wsX8_swap (wsV RX8 138 RX8 yX8_lowestInRing wsX8_lowestInRing) := goodIn_app (goodIn_of _ (by decide +kernel)) ggX8_swap_X8_lowestInRing
set_option maxRecDepth 20000 in
theorem ggX8_swap_X8_records : GoodIn wsX8_swap wsX8_records := goodIn_r _ [46, 47, 48, 6, 49, 50, 4, 51, 62, 63, 64, 65, 66, 67, 68, 69, 70, 71, 72, 73, 74] (by decide +kernel) (by decide +kernel)
set_option maxRecDepth 20000 in
theorem gX8_swap_X8_records : GoodIn wsX8_swap (wsV RX8 52 RX8 yX8_records wsX8_records) := goodIn_app (goodIn_of _ (by decide +kernel)) ggX8_swap_X8_records
set_option maxRecDepth 20000 in
theorem ggX8_swap_X8_swaps : GoodIn wsX8_swap wsX8_swaps := goodIn_r _ [55, 56, 57, 15, 16, 17, 4, 18, 6, 11, 12, 13, 14, 19, 20, 21, 22, 23, 24, 25, 26, 27, 28, 29, 30, 31, 32, 33, 34, 35, 36, 37, 38, 39, 40, 41, 42, 58, 59, 60, 61, 62, 63, 64, 65, 66, 67, 68, 69, 70, 71, 72, 73, 74] (by decide +kernel) (by decide +kernel)
set_option maxRecDepth 20000 in
theorem gX8_swap_X8_swaps : GoodIn wsX8_swap (wsV RX8 141 RX8 yX8_swaps wsX8_swaps) := goodIn_app (goodIn_of _ (by decide +kernel)) ggX8_swap_X8_swaps
theorem dX8_swap_0 : decode cX8_swap 0 = .ok (.aload_n 0, 1) := by decide +kernel
theorem dX8_swap_1 : decode cX8_swap 1 = .ok (.invokevirtual 138, 3) := by decide +kernel
theorem dX8_swap_4 : decode cX8_swap 4 = .ok (.istore_n 1, 1) := by decide +kernel
theorem dX8_swap_5 : decode cX8_swap 5 = .ok (.iload_n 1, 1) := by decide +kernel
theorem dX8_swap_6 : decode cX8_swap 6 = .ok (.bipush (-5), 2) := by decide +kernel
theorem dX8_swap_8 : decode cX8_swap 8 = .ok (.if_icmp .ne 6, 3) := by decide +kernel
theorem dX8_swap_11 : decode cX8_swap 11 = .ok (.bipush (-5), 2) := by decide +kernel
theorem dX8_swap_13 : decode cX8_swap 13 = .ok (.ireturn, 1) := by decide +kernel
theorem dX8_swap_14 : decode cX8_swap 14 = .ok (.aload_n 0, 1) := by decide +kernel
theorem dX8_swap_15 : decode cX8_swap 15 = .ok (.invokevirtual 52, 3) := by decide +kernel
theorem dX8_swap_18 : decode cX8_swap 18 = .ok (.iconst 0, 1) := by decide +kernel
theorem dX8_swap_19 : decode cX8_swap 19 = .ok (.istore_n 2, 1) := by decide +kernel
theorem dX8_swap_20 : decode cX8_swap 20 = .ok (.iload_n 1, 1) := by decide +kernel
theorem dX8_swap_21 : decode cX8_swap 21 = .ok (.bipush (-5), 2) := by decide +kernel
theorem dX8_swap_23 : decode cX8_swap 23 = .ok (.if_icmp .eq 19, 3) := by decide +kernel
theorem dX8_swap_26 : decode cX8_swap 26 = .ok (.iload_n 2, 1) := by decide +kernel
theorem dX8_swap_27 : decode cX8_swap 27 = .ok (.aload_n 0, 1) := by decide +kernel
theorem dX8_swap_28 : decode cX8_swap 28 = .ok (.iload_n 1, 1) := by decide +kernel
theorem dX8_swap_29 : decode cX8_swap 29 = .ok (.invokevirtual 141, 3) := by decide +kernel
theorem dX8_swap_32 : decode cX8_swap 32 = .ok (.iadd, 1) := by decide +kernel
theorem dX8_swap_33 : decode cX8_swap 33 = .ok (.istore_n 2, 1) := by decide +kernel
theorem dX8_swap_34 : decode cX8_swap 34 = .ok (.aload_n 0, 1) := by decide +kernel
theorem dX8_swap_35 : decode cX8_swap 35 = .ok (.invokevirtual 138, 3) := by decide +kernel
theorem dX8_swap_38 : decode cX8_swap 38 = .ok (.istore_n 1, 1) := by decide +kernel
theorem dX8_swap_39 : decode cX8_swap 39 = .ok (.goto (-19), 3) := by decide +kernel
theorem dX8_swap_42 : decode cX8_swap 42 = .ok (.iload_n 2, 1) := by decide +kernel
theorem dX8_swap_43 : decode cX8_swap 43 = .ok (.ireturn, 1) := by decide +kernel
theorem dX8_type_0 : decode cX8_type 0 = .ok (.aload_n 0, 1) := by decide +kernel
theorem dX8_type_1 : decode cX8_type 1 = .ok (.getfield 144, 3) := by decide +kernel
theorem dX8_type_4 : decode cX8_type 4 = .ok (.bipush 60, 2) := by decide +kernel
theorem dX8_type_6 : decode cX8_type 6 = .ok (.if_icmp .ne 6, 3) := by decide +kernel
theorem dX8_type_9 : decode cX8_type 9 = .ok (.bipush (-3), 2) := by decide +kernel
theorem dX8_type_11 : decode cX8_type 11 = .ok (.ireturn, 1) := by decide +kernel
theorem dX8_type_12 : decode cX8_type 12 = .ok (.aload_n 0, 1) := by decide +kernel
theorem dX8_type_13 : decode cX8_type 13 = .ok (.getfield 19, 3) := by decide +kernel
theorem dX8_type_16 : decode cX8_type 16 = .ok (.aload_n 0, 1) := by decide +kernel
theorem dX8_type_17 : decode cX8_type 17 = .ok (.getfield 144, 3) := by decide +kernel
theorem dX8_type_20 : decode cX8_type 20 = .ok (.iload_n 1, 1) := by decide +kernel
theorem dX8_type_21 : decode cX8_type 21 = .ok (.castore, 1) := by decide +kernel
theorem dX8_type_22 : decode cX8_type 22 = .ok (.aload_n 0, 1) := by decide +kernel
theorem dX8_type_23 : decode cX8_type 23 = .ok (.dup, 1) := by decide +kernel
theorem dX8_type_24 : decode cX8_type 24 = .ok (.getfield 144, 3) := by decide +kernel
theorem dX8_type_27 : decode cX8_type 27 = .ok (.iconst 1, 1) := by decide +kernel
theorem dX8_type_28 : decode cX8_type 28 = .ok (.iadd, 1) := by decide +kernel
theorem dX8_type_29 : decode cX8_type 29 = .ok (.putfield 144, 3) := by decide +kernel
theorem dX8_type_32 : decode cX8_type 32 = .ok (.aload_n 0, 1) := by decide +kernel
theorem dX8_type_33 : decode cX8_type 33 = .ok (.getfield 144, 3) := by decide +kernel
theorem dX8_type_36 : decode cX8_type 36 = .ok (.ireturn, 1) := by decide +kernel
theorem dX8_clearText_0 : decode cX8_clearText 0 = .ok (.aload_n 0, 1) := by decide +kernel
theorem dX8_clearText_1 : decode cX8_clearText 1 = .ok (.getfield 144, 3) := by decide +kernel
theorem dX8_clearText_4 : decode cX8_clearText 4 = .ok (.istore_n 1, 1) := by decide +kernel
theorem dX8_clearText_5 : decode cX8_clearText 5 = .ok (.aload_n 0, 1) := by decide +kernel
theorem dX8_clearText_6 : decode cX8_clearText 6 = .ok (.iconst 0, 1) := by decide +kernel
theorem dX8_clearText_7 : decode cX8_clearText 7 = .ok (.putfield 144, 3) := by decide +kernel
theorem dX8_clearText_10 : decode cX8_clearText 10 = .ok (.iload_n 1, 1) := by decide +kernel
theorem dX8_clearText_11 : decode cX8_clearText 11 = .ok (.ireturn, 1) := by decide +kernel
set_option maxRecDepth 20000 in
theorem ggX8_sees_X8_in : GoodIn wsX8_sees wsX8_in := goodIn_r _ [7] (by decide +kernel) (by decide +kernel)
set_option maxRecDepth 20000 in
theorem gX8_sees_X8_in : GoodIn wsX8_sees (va_wsS RX8 55 yX8_in wsX8_in) := goodIn_app (goodIn_of _ (by decide +kernel)) ggX8_sees_X8_in
theorem dX8_sees_0 : decode cX8_sees 0 = .ok (.aload_n 0, 1) := by decide +kernel
theorem dX8_sees_1 : decode cX8_sees 1 = .ok (.getfield 147, 3) := by decide +kernel
theorem dX8_sees_4 : decode cX8_sees 4 = .ok (.aload_n 0, 1) := by decide +kernel
theorem dX8_sees_5 : decode cX8_sees 5 = .ok (.getfield 144, 3) := by decide +kernel
theorem dX8_sees_8 : decode cX8_sees 8 = .ok (.if_icmp .ge 24, 3) := by decide +kernel
theorem dX8_sees_11 : decode cX8_sees 11 = .ok (.aload_n 0, 1) := by decide +kernel
theorem dX8_sees_12 : decode cX8_sees 12 = .ok (.getfield 19, 3) := by decide +kernel
theorem dX8_sees_15 : decode cX8_sees 15 = .ok (.aload_n 0, 1) := by decide +kernel
theorem dX8_sees_16 : decode cX8_sees 16 = .ok (.getfield 147, 3) := by decide +kernel
theorem dX8_sees_19 : decode cX8_sees 19 = .ok (.caload, 1) := by decide +kernel
theorem dX8_sees_20 : decode cX8_sees 20 = .ok (.iload_n 1, 1) := by decide +kernel
theorem dX8_sees_21 : decode cX8_sees 21 = .ok (.iload_n 2, 1) := by decide +kernel
theorem dX8_sees_22 : decode cX8_sees 22 = .ok (.invokestatic 55, 3) := by decide +kernel
theorem dX8_sees_25 : decode cX8_sees 25 = .ok (.ifCond .eq 7, 3) := by decide +kernel
theorem dX8_sees_28 : decode cX8_sees 28 = .ok (.iconst 1, 1) := by decide +kernel
theorem dX8_sees_29 : decode cX8_sees 29 = .ok (.goto 4, 3) := by decide +kernel
theorem dX8_sees_32 : decode cX8_sees 32 = .ok (.iconst 0, 1) := by decide +kernel
theorem dX8_sees_33 : decode cX8_sees 33 = .ok (.ireturn, 1) := by decide +kernel
set_option maxRecDepth 20000 in
theorem ggX8_takes_X8_sees : GoodIn wsX8_takes wsX8_sees := goodIn_r _ [6, 1, 7, 8, 9, 10, 5, 11, 12, 13, 14, 15, 16, 17, 18, 19, 20, 21, 22, 23, 24] (by decide +kernel) (by decide +kernel)
set_option maxRecDepth 20000 in
theorem gX8_takes_X8_sees : GoodIn wsX8_takes (wsV RX8 150 RX8 yX8_sees wsX8_sees) := goodIn_app (goodIn_of _ (by decide +kernel)) ggX8_takes_X8_sees
theorem dX8_takes_0 : decode cX8_takes 0 = .ok (.aload_n 0, 1) := by decide +kernel
theorem dX8_takes_1 : decode cX8_takes 1 = .ok (.iload_n 1, 1) := by decide +kernel
theorem dX8_takes_2 : decode cX8_takes 2 = .ok (.iload_n 1, 1) := by decide +kernel
theorem dX8_takes_3 : decode cX8_takes 3 = .ok (.invokevirtual 150, 3) := by decide +kernel
theorem dX8_takes_6 : decode cX8_takes 6 = .ok (.istore_n 2, 1) := by decide +kernel
theorem dX8_takes_7 : decode cX8_takes 7 = .ok (.aload_n 0, 1) := by decide +kernel
theorem dX8_takes_8 : decode cX8_takes 8 = .ok (.dup, 1) := by decide +kernel
theorem dX8_takes_9 : decode cX8_takes 9 = .ok (.getfield 147, 3) := by decide +kernel
theorem dX8_takes_12 : decode cX8_takes 12 = .ok (.iload_n 2, 1) := by decide +kernel
theorem dX8_takes_13 : decode cX8_takes 13 = .ok (.ifCond .eq 7, 3) := by decide +kernel
theorem dX8_takes_16 : decode cX8_takes 16 = .ok (.iconst 1, 1) := by decide +kernel
theorem dX8_takes_17 : decode cX8_takes 17 = .ok (.goto 4, 3) := by decide +kernel
theorem dX8_takes_20 : decode cX8_takes 20 = .ok (.iconst 0, 1) := by decide +kernel
theorem dX8_takes_21 : decode cX8_takes 21 = .ok (.iadd, 1) := by decide +kernel
theorem dX8_takes_22 : decode cX8_takes 22 = .ok (.putfield 147, 3) := by decide +kernel
theorem dX8_takes_25 : decode cX8_takes 25 = .ok (.iload_n 2, 1) := by decide +kernel
theorem dX8_takes_26 : decode cX8_takes 26 = .ok (.ireturn, 1) := by decide +kernel
set_option maxRecDepth 20000 in
theorem ggX8_number_X8_sees : GoodIn wsX8_number wsX8_sees := goodIn_r _ [7, 2, 8, 1, 9, 10, 6, 11, 12, 13, 14, 15, 16, 17, 18, 19, 20, 21, 22, 23, 24] (by decide +kernel) (by decide +kernel)
set_option maxRecDepth 20000 in
theorem gX8_number_X8_sees : GoodIn wsX8_number (wsV RX8 150 RX8 yX8_sees wsX8_sees) := goodIn_app (goodIn_of _ (by decide +kernel)) ggX8_number_X8_sees
theorem dX8_number_0 : decode cX8_number 0 = .ok (.aload_n 0, 1) := by decide +kernel
theorem dX8_number_1 : decode cX8_number 1 = .ok (.bipush 48, 2) := by decide +kernel
theorem dX8_number_3 : decode cX8_number 3 = .ok (.bipush 57, 2) := by decide +kernel
theorem dX8_number_5 : decode cX8_number 5 = .ok (.invokevirtual 150, 3) := by decide +kernel
theorem dX8_number_8 : decode cX8_number 8 = .ok (.ifCond .ne 6, 3) := by decide +kernel
theorem dX8_number_11 : decode cX8_number 11 = .ok (.bipush (-5), 2) := by decide +kernel
theorem dX8_number_13 : decode cX8_number 13 = .ok (.ireturn, 1) := by decide +kernel
theorem dX8_number_14 : decode cX8_number 14 = .ok (.aload_n 0, 1) := by decide +kernel
theorem dX8_number_15 : decode cX8_number 15 = .ok (.getfield 19, 3) := by decide +kernel
theorem dX8_number_18 : decode cX8_number 18 = .ok (.aload_n 0, 1) := by decide +kernel
theorem dX8_number_19 : decode cX8_number 19 = .ok (.getfield 147, 3) := by decide +kernel
theorem dX8_number_22 : decode cX8_number 22 = .ok (.caload, 1) := by decide +kernel
theorem dX8_number_23 : decode cX8_number 23 = .ok (.bipush 48, 2) := by decide +kernel
theorem dX8_number_25 : decode cX8_number 25 = .ok (.isub, 1) := by decide +kernel
theorem dX8_number_26 : decode cX8_number 26 = .ok (.istore_n 1, 1) := by decide +kernel
theorem dX8_number_27 : decode cX8_number 27 = .ok (.aload_n 0, 1) := by decide +kernel
theorem dX8_number_28 : decode cX8_number 28 = .ok (.dup, 1) := by decide +kernel
theorem dX8_number_29 : decode cX8_number 29 = .ok (.getfield 147, 3) := by decide +kernel
theorem dX8_number_32 : decode cX8_number 32 = .ok (.iconst 1, 1) := by decide +kernel
theorem dX8_number_33 : decode cX8_number 33 = .ok (.iadd, 1) := by decide +kernel
theorem dX8_number_34 : decode cX8_number 34 = .ok (.putfield 147, 3) := by decide +kernel
theorem dX8_number_37 : decode cX8_number 37 = .ok (.iload_n 1, 1) := by decide +kernel
theorem dX8_number_38 : decode cX8_number 38 = .ok (.iconst 1, 1) := by decide +kernel
theorem dX8_number_39 : decode cX8_number 39 = .ok (.if_icmp .ne 40, 3) := by decide +kernel
theorem dX8_number_42 : decode cX8_number 42 = .ok (.aload_n 0, 1) := by decide +kernel
theorem dX8_number_43 : decode cX8_number 43 = .ok (.bipush 48, 2) := by decide +kernel
theorem dX8_number_45 : decode cX8_number 45 = .ok (.bipush 49, 2) := by decide +kernel
theorem dX8_number_47 : decode cX8_number 47 = .ok (.invokevirtual 150, 3) := by decide +kernel
theorem dX8_number_50 : decode cX8_number 50 = .ok (.ifCond .eq 29, 3) := by decide +kernel
theorem dX8_number_53 : decode cX8_number 53 = .ok (.bipush 10, 2) := by decide +kernel
theorem dX8_number_55 : decode cX8_number 55 = .ok (.aload_n 0, 1) := by decide +kernel
theorem dX8_number_56 : decode cX8_number 56 = .ok (.getfield 19, 3) := by decide +kernel
theorem dX8_number_59 : decode cX8_number 59 = .ok (.aload_n 0, 1) := by decide +kernel
theorem dX8_number_60 : decode cX8_number 60 = .ok (.getfield 147, 3) := by decide +kernel
theorem dX8_number_63 : decode cX8_number 63 = .ok (.caload, 1) := by decide +kernel
theorem dX8_number_64 : decode cX8_number 64 = .ok (.iadd, 1) := by decide +kernel
theorem dX8_number_65 : decode cX8_number 65 = .ok (.bipush 48, 2) := by decide +kernel
theorem dX8_number_67 : decode cX8_number 67 = .ok (.isub, 1) := by decide +kernel
theorem dX8_number_68 : decode cX8_number 68 = .ok (.istore_n 1, 1) := by decide +kernel
theorem dX8_number_69 : decode cX8_number 69 = .ok (.aload_n 0, 1) := by decide +kernel
theorem dX8_number_70 : decode cX8_number 70 = .ok (.dup, 1) := by decide +kernel
theorem dX8_number_71 : decode cX8_number 71 = .ok (.getfield 147, 3) := by decide +kernel
theorem dX8_number_74 : decode cX8_number 74 = .ok (.iconst 1, 1) := by decide +kernel
theorem dX8_number_75 : decode cX8_number 75 = .ok (.iadd, 1) := by decide +kernel
theorem dX8_number_76 : decode cX8_number 76 = .ok (.putfield 147, 3) := by decide +kernel
theorem dX8_number_79 : decode cX8_number 79 = .ok (.iload_n 1, 1) := by decide +kernel
theorem dX8_number_80 : decode cX8_number 80 = .ok (.ireturn, 1) := by decide +kernel
set_option maxRecDepth 20000 in
theorem ggX8_readsList_X8_number : GoodIn wsX8_readsList wsX8_number := goodIn_r _ [7, 8, 9, 10, 11, 12, 6, 13, 14, 15, 16, 17, 22, 23, 24, 25, 26, 27, 28, 29, 30, 31, 32, 33, 34] (by decide +kernel) (by decide +kernel)
set_option maxRecDepth 20000 in
theorem gX8_readsList_X8_number : GoodIn wsX8_readsList (wsV RX8 157 RX8 yX8_number wsX8_number) := goodIn_app (goodIn_of _ (by decide +kernel)) ggX8_readsList_X8_number
set_option maxRecDepth 20000 in
theorem ggX8_readsList_X8_takes : GoodIn wsX8_readsList wsX8_takes := goodIn_r _ [21, 9, 10, 11, 12, 6, 13, 14, 8, 15, 16, 17, 22, 23, 24, 25, 26, 27, 28, 29, 30, 31, 32, 33, 34] (by decide +kernel) (by decide +kernel)
set_option maxRecDepth 20000 in
theorem gX8_readsList_X8_takes : GoodIn wsX8_readsList (wsV RX8 160 RX8 yX8_takes wsX8_takes) := goodIn_app (goodIn_of _ (by decide +kernel)) ggX8_readsList_X8_takes
theorem dX8_readsList_0 : decode cX8_readsList 0 = .ok (.bipush 8, 2) := by decide +kernel
theorem dX8_readsList_2 : decode cX8_readsList 2 = .ok (.aload_n 0, 1) := by decide +kernel
theorem dX8_readsList_3 : decode cX8_readsList 3 = .ok (.getfield 154, 3) := by decide +kernel
theorem dX8_readsList_6 : decode cX8_readsList 6 = .ok (.imul, 1) := by decide +kernel
theorem dX8_readsList_7 : decode cX8_readsList 7 = .ok (.istore_n 1, 1) := by decide +kernel
theorem dX8_readsList_8 : decode cX8_readsList 8 = .ok (.aload_n 0, 1) := by decide +kernel
theorem dX8_readsList_9 : decode cX8_readsList 9 = .ok (.getfield 29, 3) := by decide +kernel
theorem dX8_readsList_12 : decode cX8_readsList 12 = .ok (.iload_n 1, 1) := by decide +kernel
theorem dX8_readsList_13 : decode cX8_readsList 13 = .ok (.aload_n 0, 1) := by decide +kernel
theorem dX8_readsList_14 : decode cX8_readsList 14 = .ok (.invokevirtual 157, 3) := by decide +kernel
theorem dX8_readsList_17 : decode cX8_readsList 17 = .ok (.iastore, 1) := by decide +kernel
theorem dX8_readsList_18 : decode cX8_readsList 18 = .ok (.aload_n 0, 1) := by decide +kernel
theorem dX8_readsList_19 : decode cX8_readsList 19 = .ok (.getfield 29, 3) := by decide +kernel
theorem dX8_readsList_22 : decode cX8_readsList 22 = .ok (.iload_n 1, 1) := by decide +kernel
theorem dX8_readsList_23 : decode cX8_readsList 23 = .ok (.iconst 1, 1) := by decide +kernel
theorem dX8_readsList_24 : decode cX8_readsList 24 = .ok (.iadd, 1) := by decide +kernel
theorem dX8_readsList_25 : decode cX8_readsList 25 = .ok (.iconst 0, 1) := by decide +kernel
theorem dX8_readsList_26 : decode cX8_readsList 26 = .ok (.iastore, 1) := by decide +kernel
theorem dX8_readsList_27 : decode cX8_readsList 27 = .ok (.aload_n 0, 1) := by decide +kernel
theorem dX8_readsList_28 : decode cX8_readsList 28 = .ok (.getfield 29, 3) := by decide +kernel
theorem dX8_readsList_31 : decode cX8_readsList 31 = .ok (.iload_n 1, 1) := by decide +kernel
theorem dX8_readsList_32 : decode cX8_readsList 32 = .ok (.iaload, 1) := by decide +kernel
theorem dX8_readsList_33 : decode cX8_readsList 33 = .ok (.bipush (-5), 2) := by decide +kernel
theorem dX8_readsList_35 : decode cX8_readsList 35 = .ok (.if_icmp .eq 12, 3) := by decide +kernel
theorem dX8_readsList_38 : decode cX8_readsList 38 = .ok (.aload_n 0, 1) := by decide +kernel
theorem dX8_readsList_39 : decode cX8_readsList 39 = .ok (.bipush 58, 2) := by decide +kernel
theorem dX8_readsList_41 : decode cX8_readsList 41 = .ok (.invokevirtual 160, 3) := by decide +kernel
theorem dX8_readsList_44 : decode cX8_readsList 44 = .ok (.ifCond .ne 5, 3) := by decide +kernel
theorem dX8_readsList_47 : decode cX8_readsList 47 = .ok (.iconst 0, 1) := by decide +kernel
theorem dX8_readsList_48 : decode cX8_readsList 48 = .ok (.ireturn, 1) := by decide +kernel
theorem dX8_readsList_49 : decode cX8_readsList 49 = .ok (.iconst 1, 1) := by decide +kernel
theorem dX8_readsList_50 : decode cX8_readsList 50 = .ok (.istore_n 2, 1) := by decide +kernel
theorem dX8_readsList_51 : decode cX8_readsList 51 = .ok (.iload_n 2, 1) := by decide +kernel
theorem dX8_readsList_52 : decode cX8_readsList 52 = .ok (.ifCond .eq 77, 3) := by decide +kernel
theorem dX8_readsList_55 : decode cX8_readsList 55 = .ok (.aload_n 0, 1) := by decide +kernel
theorem dX8_readsList_56 : decode cX8_readsList 56 = .ok (.invokevirtual 157, 3) := by decide +kernel
theorem dX8_readsList_59 : decode cX8_readsList 59 = .ok (.istore_n 3, 1) := by decide +kernel
theorem dX8_readsList_60 : decode cX8_readsList 60 = .ok (.iload_n 3, 1) := by decide +kernel
theorem dX8_readsList_61 : decode cX8_readsList 61 = .ok (.bipush (-5), 2) := by decide +kernel
theorem dX8_readsList_63 : decode cX8_readsList 63 = .ok (.if_icmp .ne 5, 3) := by decide +kernel
theorem dX8_readsList_66 : decode cX8_readsList 66 = .ok (.iconst 0, 1) := by decide +kernel
theorem dX8_readsList_67 : decode cX8_readsList 67 = .ok (.ireturn, 1) := by decide +kernel
theorem dX8_readsList_68 : decode cX8_readsList 68 = .ok (.aload_n 0, 1) := by decide +kernel
theorem dX8_readsList_69 : decode cX8_readsList 69 = .ok (.getfield 29, 3) := by decide +kernel
theorem dX8_readsList_72 : decode cX8_readsList 72 = .ok (.iload_n 1, 1) := by decide +kernel
theorem dX8_readsList_73 : decode cX8_readsList 73 = .ok (.iconst 2, 1) := by decide +kernel
theorem dX8_readsList_74 : decode cX8_readsList 74 = .ok (.iadd, 1) := by decide +kernel
theorem dX8_readsList_75 : decode cX8_readsList 75 = .ok (.aload_n 0, 1) := by decide +kernel
theorem dX8_readsList_76 : decode cX8_readsList 76 = .ok (.getfield 29, 3) := by decide +kernel
theorem dX8_readsList_79 : decode cX8_readsList 79 = .ok (.iload_n 1, 1) := by decide +kernel
theorem dX8_readsList_80 : decode cX8_readsList 80 = .ok (.iconst 1, 1) := by decide +kernel
theorem dX8_readsList_81 : decode cX8_readsList 81 = .ok (.iadd, 1) := by decide +kernel
theorem dX8_readsList_82 : decode cX8_readsList 82 = .ok (.iaload, 1) := by decide +kernel
theorem dX8_readsList_83 : decode cX8_readsList 83 = .ok (.iadd, 1) := by decide +kernel
theorem dX8_readsList_84 : decode cX8_readsList 84 = .ok (.iload_n 3, 1) := by decide +kernel
theorem dX8_readsList_85 : decode cX8_readsList 85 = .ok (.iastore, 1) := by decide +kernel
theorem dX8_readsList_86 : decode cX8_readsList 86 = .ok (.aload_n 0, 1) := by decide +kernel
theorem dX8_readsList_87 : decode cX8_readsList 87 = .ok (.getfield 29, 3) := by decide +kernel
theorem dX8_readsList_90 : decode cX8_readsList 90 = .ok (.iload_n 1, 1) := by decide +kernel
theorem dX8_readsList_91 : decode cX8_readsList 91 = .ok (.iconst 1, 1) := by decide +kernel
theorem dX8_readsList_92 : decode cX8_readsList 92 = .ok (.iadd, 1) := by decide +kernel
theorem dX8_readsList_93 : decode cX8_readsList 93 = .ok (.dup2, 1) := by decide +kernel
theorem dX8_readsList_94 : decode cX8_readsList 94 = .ok (.iaload, 1) := by decide +kernel
theorem dX8_readsList_95 : decode cX8_readsList 95 = .ok (.iconst 1, 1) := by decide +kernel
theorem dX8_readsList_96 : decode cX8_readsList 96 = .ok (.iadd, 1) := by decide +kernel
theorem dX8_readsList_97 : decode cX8_readsList 97 = .ok (.iastore, 1) := by decide +kernel
theorem dX8_readsList_98 : decode cX8_readsList 98 = .ok (.aload_n 0, 1) := by decide +kernel
theorem dX8_readsList_99 : decode cX8_readsList 99 = .ok (.getfield 29, 3) := by decide +kernel
theorem dX8_readsList_102 : decode cX8_readsList 102 = .ok (.iload_n 1, 1) := by decide +kernel
theorem dX8_readsList_103 : decode cX8_readsList 103 = .ok (.iconst 1, 1) := by decide +kernel
theorem dX8_readsList_104 : decode cX8_readsList 104 = .ok (.iadd, 1) := by decide +kernel
theorem dX8_readsList_105 : decode cX8_readsList 105 = .ok (.iaload, 1) := by decide +kernel
theorem dX8_readsList_106 : decode cX8_readsList 106 = .ok (.bipush 6, 2) := by decide +kernel
theorem dX8_readsList_108 : decode cX8_readsList 108 = .ok (.if_icmp .ge 16, 3) := by decide +kernel
theorem dX8_readsList_111 : decode cX8_readsList 111 = .ok (.aload_n 0, 1) := by decide +kernel
theorem dX8_readsList_112 : decode cX8_readsList 112 = .ok (.bipush 44, 2) := by decide +kernel
theorem dX8_readsList_114 : decode cX8_readsList 114 = .ok (.invokevirtual 160, 3) := by decide +kernel
theorem dX8_readsList_117 : decode cX8_readsList 117 = .ok (.ifCond .eq 7, 3) := by decide +kernel
theorem dX8_readsList_120 : decode cX8_readsList 120 = .ok (.iconst 1, 1) := by decide +kernel
theorem dX8_readsList_121 : decode cX8_readsList 121 = .ok (.goto 4, 3) := by decide +kernel
theorem dX8_readsList_124 : decode cX8_readsList 124 = .ok (.iconst 0, 1) := by decide +kernel
theorem dX8_readsList_125 : decode cX8_readsList 125 = .ok (.istore_n 2, 1) := by decide +kernel
theorem dX8_readsList_126 : decode cX8_readsList 126 = .ok (.goto (-75), 3) := by decide +kernel
theorem dX8_readsList_129 : decode cX8_readsList 129 = .ok (.iconst 1, 1) := by decide +kernel
theorem dX8_readsList_130 : decode cX8_readsList 130 = .ok (.ireturn, 1) := by decide +kernel
set_option maxRecDepth 20000 in
theorem ggX8_isText_X8_readsList : GoodIn wsX8_isText wsX8_readsList := goodIn_r _ [8, 2, 9, 10, 11, 12, 7, 13, 14, 1, 15, 16, 17, 18, 3, 19, 20, 21, 22, 23, 24, 25, 26, 27, 28, 29, 30, 31, 32, 33, 34, 35, 36, 37, 38] (by decide +kernel) (by decide +kernel)
set_option maxRecDepth 20000 in
theorem gX8_isText_X8_readsList : GoodIn wsX8_isText (wsV RX8 164 RX8 yX8_readsList wsX8_readsList) := goodIn_app (goodIn_of _ (by decide +kernel)) ggX8_isText_X8_readsList
set_option maxRecDepth 20000 in
theorem ggX8_isText_X8_takes : GoodIn wsX8_isText wsX8_takes := goodIn_r _ [25, 1, 15, 16, 17, 7, 18, 3, 14, 19, 20, 21, 26, 27, 28, 29, 30, 31, 32, 33, 34, 35, 36, 37, 38] (by decide +kernel) (by decide +kernel)
set_option maxRecDepth 20000 in
theorem gX8_isText_X8_takes : GoodIn wsX8_isText (wsV RX8 160 RX8 yX8_takes wsX8_takes) := goodIn_app (goodIn_of _ (by decide +kernel)) ggX8_isText_X8_takes
theorem dX8_isText_0 : decode cX8_isText 0 = .ok (.aload_n 0, 1) := by decide +kernel
theorem dX8_isText_1 : decode cX8_isText 1 = .ok (.iconst 0, 1) := by decide +kernel
theorem dX8_isText_2 : decode cX8_isText 2 = .ok (.putfield 147, 3) := by decide +kernel
theorem dX8_isText_5 : decode cX8_isText 5 = .ok (.aload_n 0, 1) := by decide +kernel
theorem dX8_isText_6 : decode cX8_isText 6 = .ok (.iconst 0, 1) := by decide +kernel
theorem dX8_isText_7 : decode cX8_isText 7 = .ok (.putfield 154, 3) := by decide +kernel
theorem dX8_isText_10 : decode cX8_isText 10 = .ok (.iconst 1, 1) := by decide +kernel
theorem dX8_isText_11 : decode cX8_isText 11 = .ok (.istore_n 1, 1) := by decide +kernel
theorem dX8_isText_12 : decode cX8_isText 12 = .ok (.iload_n 1, 1) := by decide +kernel
theorem dX8_isText_13 : decode cX8_isText 13 = .ok (.ifCond .eq 32, 3) := by decide +kernel
theorem dX8_isText_16 : decode cX8_isText 16 = .ok (.aload_n 0, 1) := by decide +kernel
theorem dX8_isText_17 : decode cX8_isText 17 = .ok (.invokevirtual 164, 3) := by decide +kernel
theorem dX8_isText_20 : decode cX8_isText 20 = .ok (.ifCond .ne 5, 3) := by decide +kernel
theorem dX8_isText_23 : decode cX8_isText 23 = .ok (.iconst 0, 1) := by decide +kernel
theorem dX8_isText_24 : decode cX8_isText 24 = .ok (.ireturn, 1) := by decide +kernel
theorem dX8_isText_25 : decode cX8_isText 25 = .ok (.aload_n 0, 1) := by decide +kernel
theorem dX8_isText_26 : decode cX8_isText 26 = .ok (.dup, 1) := by decide +kernel
theorem dX8_isText_27 : decode cX8_isText 27 = .ok (.getfield 154, 3) := by decide +kernel
theorem dX8_isText_30 : decode cX8_isText 30 = .ok (.iconst 1, 1) := by decide +kernel
theorem dX8_isText_31 : decode cX8_isText 31 = .ok (.iadd, 1) := by decide +kernel
theorem dX8_isText_32 : decode cX8_isText 32 = .ok (.putfield 154, 3) := by decide +kernel
theorem dX8_isText_35 : decode cX8_isText 35 = .ok (.aload_n 0, 1) := by decide +kernel
theorem dX8_isText_36 : decode cX8_isText 36 = .ok (.bipush 59, 2) := by decide +kernel
theorem dX8_isText_38 : decode cX8_isText 38 = .ok (.invokevirtual 160, 3) := by decide +kernel
theorem dX8_isText_41 : decode cX8_isText 41 = .ok (.istore_n 1, 1) := by decide +kernel
theorem dX8_isText_42 : decode cX8_isText 42 = .ok (.goto (-30), 3) := by decide +kernel
theorem dX8_isText_45 : decode cX8_isText 45 = .ok (.aload_n 0, 1) := by decide +kernel
theorem dX8_isText_46 : decode cX8_isText 46 = .ok (.getfield 147, 3) := by decide +kernel
theorem dX8_isText_49 : decode cX8_isText 49 = .ok (.aload_n 0, 1) := by decide +kernel
theorem dX8_isText_50 : decode cX8_isText 50 = .ok (.getfield 144, 3) := by decide +kernel
theorem dX8_isText_53 : decode cX8_isText 53 = .ok (.if_icmp .ne 7, 3) := by decide +kernel
theorem dX8_isText_56 : decode cX8_isText 56 = .ok (.iconst 1, 1) := by decide +kernel
theorem dX8_isText_57 : decode cX8_isText 57 = .ok (.goto 4, 3) := by decide +kernel
theorem dX8_isText_60 : decode cX8_isText 60 = .ok (.iconst 0, 1) := by decide +kernel
theorem dX8_isText_61 : decode cX8_isText 61 = .ok (.ireturn, 1) := by decide +kernel
set_option maxRecDepth 20000 in
theorem ggX8_isAllThere_X8_isHome : GoodIn wsX8_isAllThere wsX8_isHome := goodIn_r _ [7, 8, 9, 10, 6, 11, 16, 17, 18, 19, 20, 21, 22, 23, 24, 25, 26, 27, 28] (by decide +kernel) (by decide +kernel)
set_option maxRecDepth 20000 in
theorem gX8_isAllThere_X8_isHome : GoodIn wsX8_isAllThere (wsV RX8 92 RX8 yX8_isHome wsX8_isHome) := goodIn_app (goodIn_of _ (by decide +kernel)) ggX8_isAllThere_X8_isHome
set_option maxRecDepth 20000 in
theorem ggX8_isAllThere_X8_isFlat : GoodIn wsX8_isAllThere wsX8_isFlat := goodIn_r _ [15, 8, 9, 10, 6, 11, 16, 17, 18, 19, 20, 21, 22, 23, 24, 25, 26, 27, 28] (by decide +kernel) (by decide +kernel)
set_option maxRecDepth 20000 in
theorem gX8_isAllThere_X8_isFlat : GoodIn wsX8_isAllThere (wsV RX8 95 RX8 yX8_isFlat wsX8_isFlat) := goodIn_app (goodIn_of _ (by decide +kernel)) ggX8_isAllThere_X8_isFlat
theorem dX8_isAllThere_0 : decode cX8_isAllThere 0 = .ok (.iconst 1, 1) := by decide +kernel
theorem dX8_isAllThere_1 : decode cX8_isAllThere 1 = .ok (.istore_n 1, 1) := by decide +kernel
theorem dX8_isAllThere_2 : decode cX8_isAllThere 2 = .ok (.iconst 0, 1) := by decide +kernel
theorem dX8_isAllThere_3 : decode cX8_isAllThere 3 = .ok (.istore_n 2, 1) := by decide +kernel
theorem dX8_isAllThere_4 : decode cX8_isAllThere 4 = .ok (.iload_n 2, 1) := by decide +kernel
theorem dX8_isAllThere_5 : decode cX8_isAllThere 5 = .ok (.aload_n 0, 1) := by decide +kernel
theorem dX8_isAllThere_6 : decode cX8_isAllThere 6 = .ok (.getfield 154, 3) := by decide +kernel
theorem dX8_isAllThere_9 : decode cX8_isAllThere 9 = .ok (.if_icmp .ge 88, 3) := by decide +kernel
theorem dX8_isAllThere_12 : decode cX8_isAllThere 12 = .ok (.iload_n 1, 1) := by decide +kernel
theorem dX8_isAllThere_13 : decode cX8_isAllThere 13 = .ok (.ifCond .eq 23, 3) := by decide +kernel
theorem dX8_isAllThere_16 : decode cX8_isAllThere 16 = .ok (.aload_n 0, 1) := by decide +kernel
theorem dX8_isAllThere_17 : decode cX8_isAllThere 17 = .ok (.aload_n 0, 1) := by decide +kernel
theorem dX8_isAllThere_18 : decode cX8_isAllThere 18 = .ok (.getfield 29, 3) := by decide +kernel
theorem dX8_isAllThere_21 : decode cX8_isAllThere 21 = .ok (.bipush 8, 2) := by decide +kernel
theorem dX8_isAllThere_23 : decode cX8_isAllThere 23 = .ok (.iload_n 2, 1) := by decide +kernel
theorem dX8_isAllThere_24 : decode cX8_isAllThere 24 = .ok (.imul, 1) := by decide +kernel
theorem dX8_isAllThere_25 : decode cX8_isAllThere 25 = .ok (.iaload, 1) := by decide +kernel
theorem dX8_isAllThere_26 : decode cX8_isAllThere 26 = .ok (.invokevirtual 92, 3) := by decide +kernel
theorem dX8_isAllThere_29 : decode cX8_isAllThere 29 = .ok (.ifCond .eq 7, 3) := by decide +kernel
theorem dX8_isAllThere_32 : decode cX8_isAllThere 32 = .ok (.iconst 1, 1) := by decide +kernel
theorem dX8_isAllThere_33 : decode cX8_isAllThere 33 = .ok (.goto 4, 3) := by decide +kernel
theorem dX8_isAllThere_36 : decode cX8_isAllThere 36 = .ok (.iconst 0, 1) := by decide +kernel
theorem dX8_isAllThere_37 : decode cX8_isAllThere 37 = .ok (.istore_n 1, 1) := by decide +kernel
theorem dX8_isAllThere_38 : decode cX8_isAllThere 38 = .ok (.iconst 0, 1) := by decide +kernel
theorem dX8_isAllThere_39 : decode cX8_isAllThere 39 = .ok (.istore_n 3, 1) := by decide +kernel
theorem dX8_isAllThere_40 : decode cX8_isAllThere 40 = .ok (.iload_n 3, 1) := by decide +kernel
theorem dX8_isAllThere_41 : decode cX8_isAllThere 41 = .ok (.aload_n 0, 1) := by decide +kernel
theorem dX8_isAllThere_42 : decode cX8_isAllThere 42 = .ok (.getfield 29, 3) := by decide +kernel
theorem dX8_isAllThere_45 : decode cX8_isAllThere 45 = .ok (.bipush 8, 2) := by decide +kernel
theorem dX8_isAllThere_47 : decode cX8_isAllThere 47 = .ok (.iload_n 2, 1) := by decide +kernel
theorem dX8_isAllThere_48 : decode cX8_isAllThere 48 = .ok (.imul, 1) := by decide +kernel
theorem dX8_isAllThere_49 : decode cX8_isAllThere 49 = .ok (.iconst 1, 1) := by decide +kernel
theorem dX8_isAllThere_50 : decode cX8_isAllThere 50 = .ok (.iadd, 1) := by decide +kernel
theorem dX8_isAllThere_51 : decode cX8_isAllThere 51 = .ok (.iaload, 1) := by decide +kernel
theorem dX8_isAllThere_52 : decode cX8_isAllThere 52 = .ok (.if_icmp .ge 39, 3) := by decide +kernel
theorem dX8_isAllThere_55 : decode cX8_isAllThere 55 = .ok (.iload_n 1, 1) := by decide +kernel
theorem dX8_isAllThere_56 : decode cX8_isAllThere 56 = .ok (.ifCond .eq 27, 3) := by decide +kernel
theorem dX8_isAllThere_59 : decode cX8_isAllThere 59 = .ok (.aload_n 0, 1) := by decide +kernel
theorem dX8_isAllThere_60 : decode cX8_isAllThere 60 = .ok (.aload_n 0, 1) := by decide +kernel
theorem dX8_isAllThere_61 : decode cX8_isAllThere 61 = .ok (.getfield 29, 3) := by decide +kernel
theorem dX8_isAllThere_64 : decode cX8_isAllThere 64 = .ok (.bipush 8, 2) := by decide +kernel
theorem dX8_isAllThere_66 : decode cX8_isAllThere 66 = .ok (.iload_n 2, 1) := by decide +kernel
theorem dX8_isAllThere_67 : decode cX8_isAllThere 67 = .ok (.imul, 1) := by decide +kernel
theorem dX8_isAllThere_68 : decode cX8_isAllThere 68 = .ok (.iconst 2, 1) := by decide +kernel
theorem dX8_isAllThere_69 : decode cX8_isAllThere 69 = .ok (.iadd, 1) := by decide +kernel
theorem dX8_isAllThere_70 : decode cX8_isAllThere 70 = .ok (.iload_n 3, 1) := by decide +kernel
theorem dX8_isAllThere_71 : decode cX8_isAllThere 71 = .ok (.iadd, 1) := by decide +kernel
theorem dX8_isAllThere_72 : decode cX8_isAllThere 72 = .ok (.iaload, 1) := by decide +kernel
theorem dX8_isAllThere_73 : decode cX8_isAllThere 73 = .ok (.invokevirtual 95, 3) := by decide +kernel
theorem dX8_isAllThere_76 : decode cX8_isAllThere 76 = .ok (.ifCond .eq 7, 3) := by decide +kernel
theorem dX8_isAllThere_79 : decode cX8_isAllThere 79 = .ok (.iconst 1, 1) := by decide +kernel
theorem dX8_isAllThere_80 : decode cX8_isAllThere 80 = .ok (.goto 4, 3) := by decide +kernel
theorem dX8_isAllThere_83 : decode cX8_isAllThere 83 = .ok (.iconst 0, 1) := by decide +kernel
theorem dX8_isAllThere_84 : decode cX8_isAllThere 84 = .ok (.istore_n 1, 1) := by decide +kernel
theorem dX8_isAllThere_85 : decode cX8_isAllThere 85 = .ok (.iinc 3 1, 3) := by decide +kernel
theorem dX8_isAllThere_88 : decode cX8_isAllThere 88 = .ok (.goto (-48), 3) := by decide +kernel
theorem dX8_isAllThere_91 : decode cX8_isAllThere 91 = .ok (.iinc 2 1, 3) := by decide +kernel
theorem dX8_isAllThere_94 : decode cX8_isAllThere 94 = .ok (.goto (-90), 3) := by decide +kernel
theorem dX8_isAllThere_97 : decode cX8_isAllThere 97 = .ok (.iload_n 1, 1) := by decide +kernel
theorem dX8_isAllThere_98 : decode cX8_isAllThere 98 = .ok (.ireturn, 1) := by decide +kernel
theorem dX8_isAnyTwice_0 : decode cX8_isAnyTwice 0 = .ok (.iconst 0, 1) := by decide +kernel
theorem dX8_isAnyTwice_1 : decode cX8_isAnyTwice 1 = .ok (.istore_n 1, 1) := by decide +kernel
theorem dX8_isAnyTwice_2 : decode cX8_isAnyTwice 2 = .ok (.iconst 0, 1) := by decide +kernel
theorem dX8_isAnyTwice_3 : decode cX8_isAnyTwice 3 = .ok (.istore_n 2, 1) := by decide +kernel
theorem dX8_isAnyTwice_4 : decode cX8_isAnyTwice 4 = .ok (.iload_n 2, 1) := by decide +kernel
theorem dX8_isAnyTwice_5 : decode cX8_isAnyTwice 5 = .ok (.aload_n 0, 1) := by decide +kernel
theorem dX8_isAnyTwice_6 : decode cX8_isAnyTwice 6 = .ok (.getfield 154, 3) := by decide +kernel
theorem dX8_isAnyTwice_9 : decode cX8_isAnyTwice 9 = .ok (.if_icmp .ge 76, 3) := by decide +kernel
theorem dX8_isAnyTwice_12 : decode cX8_isAnyTwice 12 = .ok (.iconst 0, 1) := by decide +kernel
theorem dX8_isAnyTwice_13 : decode cX8_isAnyTwice 13 = .ok (.istore_n 3, 1) := by decide +kernel
theorem dX8_isAnyTwice_14 : decode cX8_isAnyTwice 14 = .ok (.iconst 0, 1) := by decide +kernel
theorem dX8_isAnyTwice_15 : decode cX8_isAnyTwice 15 = .ok (.istore 4, 2) := by decide +kernel
theorem dX8_isAnyTwice_17 : decode cX8_isAnyTwice 17 = .ok (.iload 4, 2) := by decide +kernel
theorem dX8_isAnyTwice_19 : decode cX8_isAnyTwice 19 = .ok (.aload_n 0, 1) := by decide +kernel
theorem dX8_isAnyTwice_20 : decode cX8_isAnyTwice 20 = .ok (.getfield 29, 3) := by decide +kernel
theorem dX8_isAnyTwice_23 : decode cX8_isAnyTwice 23 = .ok (.bipush 8, 2) := by decide +kernel
theorem dX8_isAnyTwice_25 : decode cX8_isAnyTwice 25 = .ok (.iload_n 2, 1) := by decide +kernel
theorem dX8_isAnyTwice_26 : decode cX8_isAnyTwice 26 = .ok (.imul, 1) := by decide +kernel
theorem dX8_isAnyTwice_27 : decode cX8_isAnyTwice 27 = .ok (.iconst 1, 1) := by decide +kernel
theorem dX8_isAnyTwice_28 : decode cX8_isAnyTwice 28 = .ok (.iadd, 1) := by decide +kernel
theorem dX8_isAnyTwice_29 : decode cX8_isAnyTwice 29 = .ok (.iaload, 1) := by decide +kernel
theorem dX8_isAnyTwice_30 : decode cX8_isAnyTwice 30 = .ok (.if_icmp .ge 49, 3) := by decide +kernel
theorem dX8_isAnyTwice_33 : decode cX8_isAnyTwice 33 = .ok (.iconst 1, 1) := by decide +kernel
theorem dX8_isAnyTwice_34 : decode cX8_isAnyTwice 34 = .ok (.aload_n 0, 1) := by decide +kernel
theorem dX8_isAnyTwice_35 : decode cX8_isAnyTwice 35 = .ok (.getfield 29, 3) := by decide +kernel
theorem dX8_isAnyTwice_38 : decode cX8_isAnyTwice 38 = .ok (.bipush 8, 2) := by decide +kernel
theorem dX8_isAnyTwice_40 : decode cX8_isAnyTwice 40 = .ok (.iload_n 2, 1) := by decide +kernel
theorem dX8_isAnyTwice_41 : decode cX8_isAnyTwice 41 = .ok (.imul, 1) := by decide +kernel
theorem dX8_isAnyTwice_42 : decode cX8_isAnyTwice 42 = .ok (.iconst 2, 1) := by decide +kernel
theorem dX8_isAnyTwice_43 : decode cX8_isAnyTwice 43 = .ok (.iadd, 1) := by decide +kernel
theorem dX8_isAnyTwice_44 : decode cX8_isAnyTwice 44 = .ok (.iload 4, 2) := by decide +kernel
theorem dX8_isAnyTwice_46 : decode cX8_isAnyTwice 46 = .ok (.iadd, 1) := by decide +kernel
theorem dX8_isAnyTwice_47 : decode cX8_isAnyTwice 47 = .ok (.iaload, 1) := by decide +kernel
theorem dX8_isAnyTwice_48 : decode cX8_isAnyTwice 48 = .ok (.ishl, 1) := by decide +kernel
theorem dX8_isAnyTwice_49 : decode cX8_isAnyTwice 49 = .ok (.istore 5, 2) := by decide +kernel
theorem dX8_isAnyTwice_51 : decode cX8_isAnyTwice 51 = .ok (.iload_n 1, 1) := by decide +kernel
theorem dX8_isAnyTwice_52 : decode cX8_isAnyTwice 52 = .ok (.ifCond .ne 10, 3) := by decide +kernel
theorem dX8_isAnyTwice_55 : decode cX8_isAnyTwice 55 = .ok (.iload_n 3, 1) := by decide +kernel
theorem dX8_isAnyTwice_56 : decode cX8_isAnyTwice 56 = .ok (.iload 5, 2) := by decide +kernel
theorem dX8_isAnyTwice_58 : decode cX8_isAnyTwice 58 = .ok (.iand, 1) := by decide +kernel
theorem dX8_isAnyTwice_59 : decode cX8_isAnyTwice 59 = .ok (.ifCond .eq 7, 3) := by decide +kernel
theorem dX8_isAnyTwice_62 : decode cX8_isAnyTwice 62 = .ok (.iconst 1, 1) := by decide +kernel
theorem dX8_isAnyTwice_63 : decode cX8_isAnyTwice 63 = .ok (.goto 4, 3) := by decide +kernel
theorem dX8_isAnyTwice_66 : decode cX8_isAnyTwice 66 = .ok (.iconst 0, 1) := by decide +kernel
theorem dX8_isAnyTwice_67 : decode cX8_isAnyTwice 67 = .ok (.istore_n 1, 1) := by decide +kernel
theorem dX8_isAnyTwice_68 : decode cX8_isAnyTwice 68 = .ok (.iload_n 3, 1) := by decide +kernel
theorem dX8_isAnyTwice_69 : decode cX8_isAnyTwice 69 = .ok (.iload 5, 2) := by decide +kernel
theorem dX8_isAnyTwice_71 : decode cX8_isAnyTwice 71 = .ok (.ior, 1) := by decide +kernel
theorem dX8_isAnyTwice_72 : decode cX8_isAnyTwice 72 = .ok (.istore_n 3, 1) := by decide +kernel
theorem dX8_isAnyTwice_73 : decode cX8_isAnyTwice 73 = .ok (.iinc 4 1, 3) := by decide +kernel
theorem dX8_isAnyTwice_76 : decode cX8_isAnyTwice 76 = .ok (.goto (-59), 3) := by decide +kernel
theorem dX8_isAnyTwice_79 : decode cX8_isAnyTwice 79 = .ok (.iinc 2 1, 3) := by decide +kernel
theorem dX8_isAnyTwice_82 : decode cX8_isAnyTwice 82 = .ok (.goto (-78), 3) := by decide +kernel
theorem dX8_isAnyTwice_85 : decode cX8_isAnyTwice 85 = .ok (.iload_n 1, 1) := by decide +kernel
theorem dX8_isAnyTwice_86 : decode cX8_isAnyTwice 86 = .ok (.ireturn, 1) := by decide +kernel
set_option maxRecDepth 20000 in
theorem ggX8_readLists_X8_isText : GoodIn wsX8_readLists wsX8_isText := goodIn_r _ [8, 1, 2, 9, 10, 11, 12, 7, 13, 3, 14, 15, 16, 17, 18, 19, 20, 21, 22, 23, 24, 25, 26, 27, 28, 29, 60, 61, 62, 63, 64, 65, 66, 67, 68, 69, 70, 71, 72] (by decide +kernel) (by decide +kernel)
set_option maxRecDepth 20000 in
theorem gX8_readLists_X8_isText : GoodIn wsX8_readLists (wsV RX8 168 RX8 yX8_isText wsX8_isText) := goodIn_app (goodIn_of _ (by decide +kernel)) ggX8_readLists_X8_isText
set_option maxRecDepth 20000 in
theorem ggX8_readLists_X8_isAllThere : GoodIn wsX8_readLists wsX8_isAllThere := goodIn_r _ [33, 2, 3, 34, 35, 36, 7, 37, 38, 23, 24, 25, 39, 40, 41, 42, 60, 61, 62, 63, 64, 65, 66, 67, 68, 69, 70, 71, 72] (by decide +kernel) (by decide +kernel)
set_option maxRecDepth 20000 in
theorem gX8_readLists_X8_isAllThere : GoodIn wsX8_readLists (wsV RX8 171 RX8 yX8_isAllThere wsX8_isAllThere) := goodIn_app (goodIn_of _ (by decide +kernel)) ggX8_readLists_X8_isAllThere
set_option maxRecDepth 20000 in
theorem ggX8_readLists_X8_isAnyTwice : GoodIn wsX8_readLists wsX8_isAnyTwice := goodIn_r _ [46, 2, 3, 60, 61, 62, 63, 64, 65, 66, 67, 68, 69, 70, 71, 72] (by decide +kernel) (by decide +kernel)
set_option maxRecDepth 20000 in
theorem gX8_readLists_X8_isAnyTwice : GoodIn wsX8_readLists (wsV RX8 174 RX8 yX8_isAnyTwice wsX8_isAnyTwice) := goodIn_app (goodIn_of _ (by decide +kernel)) ggX8_readLists_X8_isAnyTwice
set_option maxRecDepth 20000 in
theorem ggX8_readLists_X8_records : GoodIn wsX8_readLists wsX8_records := goodIn_r _ [50, 51, 52, 38, 53, 54, 7, 55, 60, 61, 62, 63, 64, 65, 66, 67, 68, 69, 70, 71, 72] (by decide +kernel) (by decide +kernel)
set_option maxRecDepth 20000 in
theorem gX8_readLists_X8_records : GoodIn wsX8_readLists (wsV RX8 52 RX8 yX8_records wsX8_records) := goodIn_app (goodIn_of _ (by decide +kernel)) ggX8_readLists_X8_records
set_option maxRecDepth 20000 in
theorem ggX8_readLists_X8_puts : GoodIn wsX8_readLists wsX8_puts := goodIn_r _ [59, 38, 60, 61, 62, 63, 64, 65, 66, 67, 68, 69, 70, 71, 72] (by decide +kernel) (by decide +kernel)
set_option maxRecDepth 20000 in
theorem gX8_readLists_X8_puts : GoodIn wsX8_readLists (wsV RX8 88 RX8 yX8_puts wsX8_puts) := goodIn_app (goodIn_of _ (by decide +kernel)) ggX8_readLists_X8_puts
theorem dX8_readLists_0 : decode cX8_readLists 0 = .ok (.aload_n 0, 1) := by decide +kernel
theorem dX8_readLists_1 : decode cX8_readLists 1 = .ok (.invokevirtual 168, 3) := by decide +kernel
theorem dX8_readLists_4 : decode cX8_readLists 4 = .ok (.ifCond .ne 11, 3) := by decide +kernel
theorem dX8_readLists_7 : decode cX8_readLists 7 = .ok (.bipush (-100), 2) := by decide +kernel
theorem dX8_readLists_9 : decode cX8_readLists 9 = .ok (.aload_n 0, 1) := by decide +kernel
theorem dX8_readLists_10 : decode cX8_readLists 10 = .ok (.getfield 147, 3) := by decide +kernel
theorem dX8_readLists_13 : decode cX8_readLists 13 = .ok (.isub, 1) := by decide +kernel
theorem dX8_readLists_14 : decode cX8_readLists 14 = .ok (.ireturn, 1) := by decide +kernel
theorem dX8_readLists_15 : decode cX8_readLists 15 = .ok (.aload_n 0, 1) := by decide +kernel
theorem dX8_readLists_16 : decode cX8_readLists 16 = .ok (.invokevirtual 171, 3) := by decide +kernel
theorem dX8_readLists_19 : decode cX8_readLists 19 = .ok (.ifCond .ne 5, 3) := by decide +kernel
theorem dX8_readLists_22 : decode cX8_readLists 22 = .ok (.iconst (-1), 1) := by decide +kernel
theorem dX8_readLists_23 : decode cX8_readLists 23 = .ok (.ireturn, 1) := by decide +kernel
theorem dX8_readLists_24 : decode cX8_readLists 24 = .ok (.aload_n 0, 1) := by decide +kernel
theorem dX8_readLists_25 : decode cX8_readLists 25 = .ok (.invokevirtual 174, 3) := by decide +kernel
theorem dX8_readLists_28 : decode cX8_readLists 28 = .ok (.ifCond .eq 6, 3) := by decide +kernel
theorem dX8_readLists_31 : decode cX8_readLists 31 = .ok (.bipush (-2), 2) := by decide +kernel
theorem dX8_readLists_33 : decode cX8_readLists 33 = .ok (.ireturn, 1) := by decide +kernel
theorem dX8_readLists_34 : decode cX8_readLists 34 = .ok (.aload_n 0, 1) := by decide +kernel
theorem dX8_readLists_35 : decode cX8_readLists 35 = .ok (.invokevirtual 52, 3) := by decide +kernel
theorem dX8_readLists_38 : decode cX8_readLists 38 = .ok (.iconst 0, 1) := by decide +kernel
theorem dX8_readLists_39 : decode cX8_readLists 39 = .ok (.istore_n 1, 1) := by decide +kernel
theorem dX8_readLists_40 : decode cX8_readLists 40 = .ok (.iload_n 1, 1) := by decide +kernel
theorem dX8_readLists_41 : decode cX8_readLists 41 = .ok (.aload_n 0, 1) := by decide +kernel
theorem dX8_readLists_42 : decode cX8_readLists 42 = .ok (.getfield 154, 3) := by decide +kernel
theorem dX8_readLists_45 : decode cX8_readLists 45 = .ok (.if_icmp .ge 88, 3) := by decide +kernel
theorem dX8_readLists_48 : decode cX8_readLists 48 = .ok (.aload_n 0, 1) := by decide +kernel
theorem dX8_readLists_49 : decode cX8_readLists 49 = .ok (.aload_n 0, 1) := by decide +kernel
theorem dX8_readLists_50 : decode cX8_readLists 50 = .ok (.getfield 29, 3) := by decide +kernel
theorem dX8_readLists_53 : decode cX8_readLists 53 = .ok (.bipush 8, 2) := by decide +kernel
theorem dX8_readLists_55 : decode cX8_readLists 55 = .ok (.iload_n 1, 1) := by decide +kernel
theorem dX8_readLists_56 : decode cX8_readLists 56 = .ok (.imul, 1) := by decide +kernel
theorem dX8_readLists_57 : decode cX8_readLists 57 = .ok (.iaload, 1) := by decide +kernel
theorem dX8_readLists_58 : decode cX8_readLists 58 = .ok (.bipush 7, 2) := by decide +kernel
theorem dX8_readLists_60 : decode cX8_readLists 60 = .ok (.aload_n 0, 1) := by decide +kernel
theorem dX8_readLists_61 : decode cX8_readLists 61 = .ok (.getfield 29, 3) := by decide +kernel
theorem dX8_readLists_64 : decode cX8_readLists 64 = .ok (.bipush 8, 2) := by decide +kernel
theorem dX8_readLists_66 : decode cX8_readLists 66 = .ok (.iload_n 1, 1) := by decide +kernel
theorem dX8_readLists_67 : decode cX8_readLists 67 = .ok (.imul, 1) := by decide +kernel
theorem dX8_readLists_68 : decode cX8_readLists 68 = .ok (.iconst 1, 1) := by decide +kernel
theorem dX8_readLists_69 : decode cX8_readLists 69 = .ok (.iadd, 1) := by decide +kernel
theorem dX8_readLists_70 : decode cX8_readLists 70 = .ok (.iaload, 1) := by decide +kernel
theorem dX8_readLists_71 : decode cX8_readLists 71 = .ok (.invokevirtual 88, 3) := by decide +kernel
theorem dX8_readLists_74 : decode cX8_readLists 74 = .ok (.iconst 0, 1) := by decide +kernel
theorem dX8_readLists_75 : decode cX8_readLists 75 = .ok (.istore_n 2, 1) := by decide +kernel
theorem dX8_readLists_76 : decode cX8_readLists 76 = .ok (.iload_n 2, 1) := by decide +kernel
theorem dX8_readLists_77 : decode cX8_readLists 77 = .ok (.aload_n 0, 1) := by decide +kernel
theorem dX8_readLists_78 : decode cX8_readLists 78 = .ok (.getfield 29, 3) := by decide +kernel
theorem dX8_readLists_81 : decode cX8_readLists 81 = .ok (.bipush 8, 2) := by decide +kernel
theorem dX8_readLists_83 : decode cX8_readLists 83 = .ok (.iload_n 1, 1) := by decide +kernel
theorem dX8_readLists_84 : decode cX8_readLists 84 = .ok (.imul, 1) := by decide +kernel
theorem dX8_readLists_85 : decode cX8_readLists 85 = .ok (.iconst 1, 1) := by decide +kernel
theorem dX8_readLists_86 : decode cX8_readLists 86 = .ok (.iadd, 1) := by decide +kernel
theorem dX8_readLists_87 : decode cX8_readLists 87 = .ok (.iaload, 1) := by decide +kernel
theorem dX8_readLists_88 : decode cX8_readLists 88 = .ok (.if_icmp .ge 39, 3) := by decide +kernel
theorem dX8_readLists_91 : decode cX8_readLists 91 = .ok (.aload_n 0, 1) := by decide +kernel
theorem dX8_readLists_92 : decode cX8_readLists 92 = .ok (.aload_n 0, 1) := by decide +kernel
theorem dX8_readLists_93 : decode cX8_readLists 93 = .ok (.getfield 29, 3) := by decide +kernel
theorem dX8_readLists_96 : decode cX8_readLists 96 = .ok (.bipush 8, 2) := by decide +kernel
theorem dX8_readLists_98 : decode cX8_readLists 98 = .ok (.iload_n 1, 1) := by decide +kernel
theorem dX8_readLists_99 : decode cX8_readLists 99 = .ok (.imul, 1) := by decide +kernel
theorem dX8_readLists_100 : decode cX8_readLists 100 = .ok (.iaload, 1) := by decide +kernel
theorem dX8_readLists_101 : decode cX8_readLists 101 = .ok (.bipush 8, 2) := by decide +kernel
theorem dX8_readLists_103 : decode cX8_readLists 103 = .ok (.iload_n 2, 1) := by decide +kernel
theorem dX8_readLists_104 : decode cX8_readLists 104 = .ok (.iadd, 1) := by decide +kernel
theorem dX8_readLists_105 : decode cX8_readLists 105 = .ok (.aload_n 0, 1) := by decide +kernel
theorem dX8_readLists_106 : decode cX8_readLists 106 = .ok (.getfield 29, 3) := by decide +kernel
theorem dX8_readLists_109 : decode cX8_readLists 109 = .ok (.bipush 8, 2) := by decide +kernel
theorem dX8_readLists_111 : decode cX8_readLists 111 = .ok (.iload_n 1, 1) := by decide +kernel
theorem dX8_readLists_112 : decode cX8_readLists 112 = .ok (.imul, 1) := by decide +kernel
theorem dX8_readLists_113 : decode cX8_readLists 113 = .ok (.iconst 2, 1) := by decide +kernel
theorem dX8_readLists_114 : decode cX8_readLists 114 = .ok (.iadd, 1) := by decide +kernel
theorem dX8_readLists_115 : decode cX8_readLists 115 = .ok (.iload_n 2, 1) := by decide +kernel
theorem dX8_readLists_116 : decode cX8_readLists 116 = .ok (.iadd, 1) := by decide +kernel
theorem dX8_readLists_117 : decode cX8_readLists 117 = .ok (.iaload, 1) := by decide +kernel
theorem dX8_readLists_118 : decode cX8_readLists 118 = .ok (.invokevirtual 88, 3) := by decide +kernel
theorem dX8_readLists_121 : decode cX8_readLists 121 = .ok (.iinc 2 1, 3) := by decide +kernel
theorem dX8_readLists_124 : decode cX8_readLists 124 = .ok (.goto (-48), 3) := by decide +kernel
theorem dX8_readLists_127 : decode cX8_readLists 127 = .ok (.iinc 1 1, 3) := by decide +kernel
theorem dX8_readLists_130 : decode cX8_readLists 130 = .ok (.goto (-90), 3) := by decide +kernel
theorem dX8_readLists_133 : decode cX8_readLists 133 = .ok (.aload_n 0, 1) := by decide +kernel
theorem dX8_readLists_134 : decode cX8_readLists 134 = .ok (.getfield 154, 3) := by decide +kernel
theorem dX8_readLists_137 : decode cX8_readLists 137 = .ok (.ireturn, 1) := by decide +kernel
set_option maxRecDepth 20000 in
theorem ggX8_households_X8_isEligible : GoodIn wsX8_households wsX8_isEligible := goodIn_r _ [6, 7, 8, 9, 5, 10, 1, 11, 12, 13, 14, 15, 16, 17, 18, 23, 24, 25, 26, 27, 28, 29, 30, 31, 32, 33, 34, 35] (by decide +kernel) (by decide +kernel)
set_option maxRecDepth 20000 in
theorem gX8_households_X8_isEligible : GoodIn wsX8_households (wsV RX8 105 RX8 yX8_isEligible wsX8_isEligible) := goodIn_app (goodIn_of _ (by decide +kernel)) ggX8_households_X8_isEligible
set_option maxRecDepth 20000 in
theorem ggX8_households_X8_placeOn : GoodIn wsX8_households wsX8_placeOn := goodIn_r _ [22, 7, 8, 9, 5, 10, 1, 23, 24, 25, 26, 27, 28, 29, 30, 31, 32, 33, 34, 35] (by decide +kernel) (by decide +kernel)
set_option maxRecDepth 20000 in
theorem gX8_households_X8_placeOn : GoodIn wsX8_households (wsV RX8 70 RX8 yX8_placeOn wsX8_placeOn) := goodIn_app (goodIn_of _ (by decide +kernel)) ggX8_households_X8_placeOn
theorem dX8_households_0 : decode cX8_households 0 = .ok (.iconst 0, 1) := by decide +kernel
theorem dX8_households_1 : decode cX8_households 1 = .ok (.istore_n 3, 1) := by decide +kernel
theorem dX8_households_2 : decode cX8_households 2 = .ok (.iconst 0, 1) := by decide +kernel
theorem dX8_households_3 : decode cX8_households 3 = .ok (.istore 4, 2) := by decide +kernel
theorem dX8_households_5 : decode cX8_households 5 = .ok (.iload 4, 2) := by decide +kernel
theorem dX8_households_7 : decode cX8_households 7 = .ok (.aload_n 0, 1) := by decide +kernel
theorem dX8_households_8 : decode cX8_households 8 = .ok (.getfield 7, 3) := by decide +kernel
theorem dX8_households_11 : decode cX8_households 11 = .ok (.iconst 1, 1) := by decide +kernel
theorem dX8_households_12 : decode cX8_households 12 = .ok (.iaload, 1) := by decide +kernel
theorem dX8_households_13 : decode cX8_households 13 = .ok (.if_icmp .ge 49, 3) := by decide +kernel
theorem dX8_households_16 : decode cX8_households 16 = .ok (.iload_n 3, 1) := by decide +kernel
theorem dX8_households_17 : decode cX8_households 17 = .ok (.iload_n 2, 1) := by decide +kernel
theorem dX8_households_18 : decode cX8_households 18 = .ok (.ifCond .eq 16, 3) := by decide +kernel
theorem dX8_households_21 : decode cX8_households 21 = .ok (.aload_n 0, 1) := by decide +kernel
theorem dX8_households_22 : decode cX8_households 22 = .ok (.iload 4, 2) := by decide +kernel
theorem dX8_households_24 : decode cX8_households 24 = .ok (.iload_n 1, 1) := by decide +kernel
theorem dX8_households_25 : decode cX8_households 25 = .ok (.invokevirtual 105, 3) := by decide +kernel
theorem dX8_households_28 : decode cX8_households 28 = .ok (.ifCond .eq 25, 3) := by decide +kernel
theorem dX8_households_31 : decode cX8_households 31 = .ok (.goto 15, 3) := by decide +kernel
theorem dX8_households_34 : decode cX8_households 34 = .ok (.aload_n 0, 1) := by decide +kernel
theorem dX8_households_35 : decode cX8_households 35 = .ok (.iload 4, 2) := by decide +kernel
theorem dX8_households_37 : decode cX8_households 37 = .ok (.iload_n 1, 1) := by decide +kernel
theorem dX8_households_38 : decode cX8_households 38 = .ok (.invokevirtual 70, 3) := by decide +kernel
theorem dX8_households_41 : decode cX8_households 41 = .ok (.bipush (-5), 2) := by decide +kernel
theorem dX8_households_43 : decode cX8_households 43 = .ok (.if_icmp .eq 10, 3) := by decide +kernel
theorem dX8_households_46 : decode cX8_households 46 = .ok (.iconst 1, 1) := by decide +kernel
theorem dX8_households_47 : decode cX8_households 47 = .ok (.iload 4, 2) := by decide +kernel
theorem dX8_households_49 : decode cX8_households 49 = .ok (.ishl, 1) := by decide +kernel
theorem dX8_households_50 : decode cX8_households 50 = .ok (.goto 4, 3) := by decide +kernel
theorem dX8_households_53 : decode cX8_households 53 = .ok (.iconst 0, 1) := by decide +kernel
theorem dX8_households_54 : decode cX8_households 54 = .ok (.ior, 1) := by decide +kernel
theorem dX8_households_55 : decode cX8_households 55 = .ok (.istore_n 3, 1) := by decide +kernel
theorem dX8_households_56 : decode cX8_households 56 = .ok (.iinc 4 1, 3) := by decide +kernel
theorem dX8_households_59 : decode cX8_households 59 = .ok (.goto (-54), 3) := by decide +kernel
theorem dX8_households_62 : decode cX8_households 62 = .ok (.iload_n 3, 1) := by decide +kernel
theorem dX8_households_63 : decode cX8_households 63 = .ok (.ireturn, 1) := by decide +kernel
set_option maxRecDepth 20000 in
theorem ggX8_flat_X8_isFlat : GoodIn wsX8_flat wsX8_isFlat := goodIn_r _ [5, 6, 7, 8, 4, 9, 38, 39, 40, 41, 42, 43, 44, 45, 46, 47, 48, 49, 50] (by decide +kernel) (by decide +kernel)
set_option maxRecDepth 20000 in
theorem gX8_flat_X8_isFlat : GoodIn wsX8_flat (wsV RX8 95 RX8 yX8_isFlat wsX8_isFlat) := goodIn_app (goodIn_of _ (by decide +kernel)) ggX8_flat_X8_isFlat
set_option maxRecDepth 20000 in
theorem ggX8_flat_X8_rooms : GoodIn wsX8_flat wsX8_rooms := goodIn_r _ [13, 6, 38, 39, 40, 41, 42, 43, 44, 45, 46, 47, 48, 49, 50] (by decide +kernel) (by decide +kernel)
set_option maxRecDepth 20000 in
theorem gX8_flat_X8_rooms : GoodIn wsX8_flat (wsV RX8 63 RX8 yX8_rooms wsX8_rooms) := goodIn_app (goodIn_of _ (by decide +kernel)) ggX8_flat_X8_rooms
set_option maxRecDepth 20000 in
theorem ggX8_flat_X8_rent : GoodIn wsX8_flat wsX8_rent := goodIn_r _ [17, 6, 38, 39, 40, 41, 42, 43, 44, 45, 46, 47, 48, 49, 50] (by decide +kernel) (by decide +kernel)
set_option maxRecDepth 20000 in
theorem gX8_flat_X8_rent : GoodIn wsX8_flat (wsV RX8 67 RX8 yX8_rent wsX8_rent) := goodIn_app (goodIn_of _ (by decide +kernel)) ggX8_flat_X8_rent
set_option maxRecDepth 20000 in
theorem ggX8_flat_X8_holder : GoodIn wsX8_flat wsX8_holder := goodIn_r _ [21, 6, 22, 23, 24, 4, 25, 38, 39, 40, 41, 42, 43, 44, 45, 46, 47, 48, 49, 50] (by decide +kernel) (by decide +kernel)
set_option maxRecDepth 20000 in
theorem gX8_flat_X8_holder : GoodIn wsX8_flat (wsV RX8 129 RX8 yX8_holder wsX8_holder) := goodIn_app (goodIn_of _ (by decide +kernel)) ggX8_flat_X8_holder
set_option maxRecDepth 20000 in
theorem ggX8_flat_X8_households : GoodIn wsX8_flat wsX8_households := goodIn_r _ [29, 6, 30, 31, 32, 4, 33, 22, 23, 24, 25, 10, 11, 12, 13, 14, 15, 16, 17, 34, 35, 36, 37, 38, 39, 40, 41, 42, 43, 44, 45, 46, 47, 48, 49, 50] (by decide +kernel) (by decide +kernel)
set_option maxRecDepth 20000 in
theorem gX8_flat_X8_households : GoodIn wsX8_flat (wsV RX8 177 RX8 yX8_households wsX8_households) := goodIn_app (goodIn_of _ (by decide +kernel)) ggX8_flat_X8_households
theorem dX8_flat_0 : decode cX8_flat 0 = .ok (.aload_n 0, 1) := by decide +kernel
theorem dX8_flat_1 : decode cX8_flat 1 = .ok (.iload_n 1, 1) := by decide +kernel
theorem dX8_flat_2 : decode cX8_flat 2 = .ok (.invokevirtual 95, 3) := by decide +kernel
theorem dX8_flat_5 : decode cX8_flat 5 = .ok (.ifCond .ne 5, 3) := by decide +kernel
theorem dX8_flat_8 : decode cX8_flat 8 = .ok (.iconst (-1), 1) := by decide +kernel
theorem dX8_flat_9 : decode cX8_flat 9 = .ok (.ireturn, 1) := by decide +kernel
theorem dX8_flat_10 : decode cX8_flat 10 = .ok (.iload_n 2, 1) := by decide +kernel
theorem dX8_flat_11 : decode cX8_flat 11 = .ok (.tableswitch 67 0 4 #[33, 39, 45, 51, 51], 33) := by decide +kernel
theorem dX8_flat_44 : decode cX8_flat 44 = .ok (.aload_n 0, 1) := by decide +kernel
theorem dX8_flat_45 : decode cX8_flat 45 = .ok (.iload_n 1, 1) := by decide +kernel
theorem dX8_flat_46 : decode cX8_flat 46 = .ok (.invokevirtual 63, 3) := by decide +kernel
theorem dX8_flat_49 : decode cX8_flat 49 = .ok (.ireturn, 1) := by decide +kernel
theorem dX8_flat_50 : decode cX8_flat 50 = .ok (.aload_n 0, 1) := by decide +kernel
theorem dX8_flat_51 : decode cX8_flat 51 = .ok (.iload_n 1, 1) := by decide +kernel
theorem dX8_flat_52 : decode cX8_flat 52 = .ok (.invokevirtual 67, 3) := by decide +kernel
theorem dX8_flat_55 : decode cX8_flat 55 = .ok (.ireturn, 1) := by decide +kernel
theorem dX8_flat_56 : decode cX8_flat 56 = .ok (.aload_n 0, 1) := by decide +kernel
theorem dX8_flat_57 : decode cX8_flat 57 = .ok (.iload_n 1, 1) := by decide +kernel
theorem dX8_flat_58 : decode cX8_flat 58 = .ok (.invokevirtual 129, 3) := by decide +kernel
theorem dX8_flat_61 : decode cX8_flat 61 = .ok (.ireturn, 1) := by decide +kernel
theorem dX8_flat_62 : decode cX8_flat 62 = .ok (.aload_n 0, 1) := by decide +kernel
theorem dX8_flat_63 : decode cX8_flat 63 = .ok (.iload_n 1, 1) := by decide +kernel
theorem dX8_flat_64 : decode cX8_flat 64 = .ok (.iload_n 2, 1) := by decide +kernel
theorem dX8_flat_65 : decode cX8_flat 65 = .ok (.iconst 4, 1) := by decide +kernel
theorem dX8_flat_66 : decode cX8_flat 66 = .ok (.if_icmp .ne 7, 3) := by decide +kernel
theorem dX8_flat_69 : decode cX8_flat 69 = .ok (.iconst 1, 1) := by decide +kernel
theorem dX8_flat_70 : decode cX8_flat 70 = .ok (.goto 4, 3) := by decide +kernel
theorem dX8_flat_73 : decode cX8_flat 73 = .ok (.iconst 0, 1) := by decide +kernel
theorem dX8_flat_74 : decode cX8_flat 74 = .ok (.invokevirtual 177, 3) := by decide +kernel
theorem dX8_flat_77 : decode cX8_flat 77 = .ok (.ireturn, 1) := by decide +kernel
theorem dX8_flat_78 : decode cX8_flat 78 = .ok (.bipush (-2), 2) := by decide +kernel
theorem dX8_flat_80 : decode cX8_flat 80 = .ok (.ireturn, 1) := by decide +kernel
set_option maxRecDepth 20000 in
theorem ggX8_household_X8_isHome : GoodIn wsX8_household wsX8_isHome := goodIn_r _ [5, 6, 7, 8, 4, 9, 54, 55, 56, 57, 58, 59, 60, 61, 62, 63, 64, 65, 66] (by decide +kernel) (by decide +kernel)
set_option maxRecDepth 20000 in
theorem gX8_household_X8_isHome : GoodIn wsX8_household (wsV RX8 92 RX8 yX8_isHome wsX8_isHome) := goodIn_app (goodIn_of _ (by decide +kernel)) ggX8_household_X8_isHome
set_option maxRecDepth 20000 in
theorem ggX8_household_X8_of : GoodIn wsX8_household wsX8_of := goodIn_r _ [13, 6, 54, 55, 56, 57, 58, 59, 60, 61, 62, 63, 64, 65, 66] (by decide +kernel) (by decide +kernel)
set_option maxRecDepth 20000 in
theorem gX8_household_X8_of : GoodIn wsX8_household (wsV RX8 59 RX8 yX8_of wsX8_of) := goodIn_app (goodIn_of _ (by decide +kernel)) ggX8_household_X8_of
set_option maxRecDepth 20000 in
theorem ggX8_household_X8_isDrawn : GoodIn wsX8_household wsX8_isDrawn := goodIn_r _ [17, 10, 11, 12, 4, 13, 6, 54, 55, 56, 57, 58, 59, 60, 61, 62, 63, 64, 65, 66] (by decide +kernel) (by decide +kernel)
set_option maxRecDepth 20000 in
theorem gX8_household_X8_isDrawn : GoodIn wsX8_household (wsV RX8 73 RX8 yX8_isDrawn wsX8_isDrawn) := goodIn_app (goodIn_of _ (by decide +kernel)) ggX8_household_X8_isDrawn
set_option maxRecDepth 20000 in
theorem ggX8_household_X8_placeOf : GoodIn wsX8_household wsX8_placeOf := goodIn_r _ [21, 6, 14, 15, 16, 4, 17, 10, 11, 12, 13, 22, 23, 24, 25, 54, 55, 56, 57, 58, 59, 60, 61, 62, 63, 64, 65, 66] (by decide +kernel) (by decide +kernel)
set_option maxRecDepth 20000 in
theorem gX8_household_X8_placeOf : GoodIn wsX8_household (wsV RX8 81 RX8 yX8_placeOf wsX8_placeOf) := goodIn_app (goodIn_of _ (by decide +kernel)) ggX8_household_X8_placeOf
set_option maxRecDepth 20000 in
theorem ggX8_household_X8_pointed : GoodIn wsX8_household wsX8_pointed := goodIn_r _ [29, 10, 11, 12, 4, 13, 6, 30, 31, 32, 33, 34, 35, 36, 37, 38, 39, 40, 41, 42, 43, 44, 45, 46, 47, 48, 49, 50, 51, 52, 53, 54, 55, 56, 57, 58, 59, 60, 61, 62, 63, 64, 65, 66] (by decide +kernel) (by decide +kernel)
set_option maxRecDepth 20000 in
theorem gX8_household_X8_pointed : GoodIn wsX8_household (wsV RX8 132 RX8 yX8_pointed wsX8_pointed) := goodIn_app (goodIn_of _ (by decide +kernel)) ggX8_household_X8_pointed
theorem dX8_household_0 : decode cX8_household 0 = .ok (.aload_n 0, 1) := by decide +kernel
theorem dX8_household_1 : decode cX8_household 1 = .ok (.iload_n 1, 1) := by decide +kernel
theorem dX8_household_2 : decode cX8_household 2 = .ok (.invokevirtual 92, 3) := by decide +kernel
theorem dX8_household_5 : decode cX8_household 5 = .ok (.ifCond .ne 5, 3) := by decide +kernel
theorem dX8_household_8 : decode cX8_household 8 = .ok (.iconst (-1), 1) := by decide +kernel
theorem dX8_household_9 : decode cX8_household 9 = .ok (.ireturn, 1) := by decide +kernel
theorem dX8_household_10 : decode cX8_household 10 = .ok (.iload_n 2, 1) := by decide +kernel
theorem dX8_household_11 : decode cX8_household 11 = .ok (.tableswitch 122 0 9 #[53, 53, 60, 80, 80, 87, 95, 102, 108, 114], 53) := by decide +kernel
theorem dX8_household_64 : decode cX8_household 64 = .ok (.aload_n 0, 1) := by decide +kernel
theorem dX8_household_65 : decode cX8_household 65 = .ok (.iload_n 1, 1) := by decide +kernel
theorem dX8_household_66 : decode cX8_household 66 = .ok (.iload_n 2, 1) := by decide +kernel
theorem dX8_household_67 : decode cX8_household 67 = .ok (.invokevirtual 59, 3) := by decide +kernel
theorem dX8_household_70 : decode cX8_household 70 = .ok (.ireturn, 1) := by decide +kernel
theorem dX8_household_71 : decode cX8_household 71 = .ok (.aload_n 0, 1) := by decide +kernel
theorem dX8_household_72 : decode cX8_household 72 = .ok (.iload_n 1, 1) := by decide +kernel
theorem dX8_household_73 : decode cX8_household 73 = .ok (.invokevirtual 73, 3) := by decide +kernel
theorem dX8_household_76 : decode cX8_household 76 = .ok (.ifCond .eq 12, 3) := by decide +kernel
theorem dX8_household_79 : decode cX8_household 79 = .ok (.aload_n 0, 1) := by decide +kernel
theorem dX8_household_80 : decode cX8_household 80 = .ok (.iload_n 1, 1) := by decide +kernel
theorem dX8_household_81 : decode cX8_household 81 = .ok (.iconst 2, 1) := by decide +kernel
theorem dX8_household_82 : decode cX8_household 82 = .ok (.invokevirtual 59, 3) := by decide +kernel
theorem dX8_household_85 : decode cX8_household 85 = .ok (.goto 5, 3) := by decide +kernel
theorem dX8_household_88 : decode cX8_household 88 = .ok (.bipush (-5), 2) := by decide +kernel
theorem dX8_household_90 : decode cX8_household 90 = .ok (.ireturn, 1) := by decide +kernel
theorem dX8_household_91 : decode cX8_household 91 = .ok (.aload_n 0, 1) := by decide +kernel
theorem dX8_household_92 : decode cX8_household 92 = .ok (.iload_n 1, 1) := by decide +kernel
theorem dX8_household_93 : decode cX8_household 93 = .ok (.iload_n 2, 1) := by decide +kernel
theorem dX8_household_94 : decode cX8_household 94 = .ok (.invokevirtual 59, 3) := by decide +kernel
theorem dX8_household_97 : decode cX8_household 97 = .ok (.ireturn, 1) := by decide +kernel
theorem dX8_household_98 : decode cX8_household 98 = .ok (.aload_n 0, 1) := by decide +kernel
theorem dX8_household_99 : decode cX8_household 99 = .ok (.iload_n 1, 1) := by decide +kernel
theorem dX8_household_100 : decode cX8_household 100 = .ok (.bipush 7, 2) := by decide +kernel
theorem dX8_household_102 : decode cX8_household 102 = .ok (.invokevirtual 59, 3) := by decide +kernel
theorem dX8_household_105 : decode cX8_household 105 = .ok (.ireturn, 1) := by decide +kernel
theorem dX8_household_106 : decode cX8_household 106 = .ok (.aload_n 0, 1) := by decide +kernel
theorem dX8_household_107 : decode cX8_household 107 = .ok (.iload_n 1, 1) := by decide +kernel
theorem dX8_household_108 : decode cX8_household 108 = .ok (.iconst 5, 1) := by decide +kernel
theorem dX8_household_109 : decode cX8_household 109 = .ok (.invokevirtual 59, 3) := by decide +kernel
theorem dX8_household_112 : decode cX8_household 112 = .ok (.ireturn, 1) := by decide +kernel
theorem dX8_household_113 : decode cX8_household 113 = .ok (.aload_n 0, 1) := by decide +kernel
theorem dX8_household_114 : decode cX8_household 114 = .ok (.iload_n 1, 1) := by decide +kernel
theorem dX8_household_115 : decode cX8_household 115 = .ok (.invokevirtual 81, 3) := by decide +kernel
theorem dX8_household_118 : decode cX8_household 118 = .ok (.ireturn, 1) := by decide +kernel
theorem dX8_household_119 : decode cX8_household 119 = .ok (.aload_n 0, 1) := by decide +kernel
theorem dX8_household_120 : decode cX8_household 120 = .ok (.iload_n 1, 1) := by decide +kernel
theorem dX8_household_121 : decode cX8_household 121 = .ok (.invokevirtual 132, 3) := by decide +kernel
theorem dX8_household_124 : decode cX8_household 124 = .ok (.ireturn, 1) := by decide +kernel
theorem dX8_household_125 : decode cX8_household 125 = .ok (.aload_n 0, 1) := by decide +kernel
theorem dX8_household_126 : decode cX8_household 126 = .ok (.iload_n 1, 1) := by decide +kernel
theorem dX8_household_127 : decode cX8_household 127 = .ok (.bipush 6, 2) := by decide +kernel
theorem dX8_household_129 : decode cX8_household 129 = .ok (.invokevirtual 59, 3) := by decide +kernel
theorem dX8_household_132 : decode cX8_household 132 = .ok (.ireturn, 1) := by decide +kernel
theorem dX8_household_133 : decode cX8_household 133 = .ok (.bipush (-2), 2) := by decide +kernel
theorem dX8_household_135 : decode cX8_household 135 = .ok (.ireturn, 1) := by decide +kernel
set_option maxRecDepth 20000 in
theorem ggX8_wished_X8_isHome : GoodIn wsX8_wished wsX8_isHome := goodIn_r _ [5, 6, 7, 8, 4, 9, 14, 15, 16, 17, 18, 19, 20, 21, 22, 23, 24, 25, 26] (by decide +kernel) (by decide +kernel)
set_option maxRecDepth 20000 in
theorem gX8_wished_X8_isHome : GoodIn wsX8_wished (wsV RX8 92 RX8 yX8_isHome wsX8_isHome) := goodIn_app (goodIn_of _ (by decide +kernel)) ggX8_wished_X8_isHome
set_option maxRecDepth 20000 in
theorem ggX8_wished_X8_of : GoodIn wsX8_wished wsX8_of := goodIn_r _ [13, 6, 14, 15, 16, 17, 18, 19, 20, 21, 22, 23, 24, 25, 26] (by decide +kernel) (by decide +kernel)
set_option maxRecDepth 20000 in
theorem gX8_wished_X8_of : GoodIn wsX8_wished (wsV RX8 59 RX8 yX8_of wsX8_of) := goodIn_app (goodIn_of _ (by decide +kernel)) ggX8_wished_X8_of
theorem dX8_wished_0 : decode cX8_wished 0 = .ok (.aload_n 0, 1) := by decide +kernel
theorem dX8_wished_1 : decode cX8_wished 1 = .ok (.iload_n 1, 1) := by decide +kernel
theorem dX8_wished_2 : decode cX8_wished 2 = .ok (.invokevirtual 92, 3) := by decide +kernel
theorem dX8_wished_5 : decode cX8_wished 5 = .ok (.ifCond .ne 5, 3) := by decide +kernel
theorem dX8_wished_8 : decode cX8_wished 8 = .ok (.iconst (-1), 1) := by decide +kernel
theorem dX8_wished_9 : decode cX8_wished 9 = .ok (.ireturn, 1) := by decide +kernel
theorem dX8_wished_10 : decode cX8_wished 10 = .ok (.iload_n 2, 1) := by decide +kernel
theorem dX8_wished_11 : decode cX8_wished 11 = .ok (.ifCond .ge 6, 3) := by decide +kernel
theorem dX8_wished_14 : decode cX8_wished 14 = .ok (.bipush (-2), 2) := by decide +kernel
theorem dX8_wished_16 : decode cX8_wished 16 = .ok (.ireturn, 1) := by decide +kernel
theorem dX8_wished_17 : decode cX8_wished 17 = .ok (.iload_n 2, 1) := by decide +kernel
theorem dX8_wished_18 : decode cX8_wished 18 = .ok (.aload_n 0, 1) := by decide +kernel
theorem dX8_wished_19 : decode cX8_wished 19 = .ok (.iload_n 1, 1) := by decide +kernel
theorem dX8_wished_20 : decode cX8_wished 20 = .ok (.bipush 7, 2) := by decide +kernel
theorem dX8_wished_22 : decode cX8_wished 22 = .ok (.invokevirtual 59, 3) := by decide +kernel
theorem dX8_wished_25 : decode cX8_wished 25 = .ok (.if_icmp .ge 15, 3) := by decide +kernel
theorem dX8_wished_28 : decode cX8_wished 28 = .ok (.aload_n 0, 1) := by decide +kernel
theorem dX8_wished_29 : decode cX8_wished 29 = .ok (.iload_n 1, 1) := by decide +kernel
theorem dX8_wished_30 : decode cX8_wished 30 = .ok (.bipush 8, 2) := by decide +kernel
theorem dX8_wished_32 : decode cX8_wished 32 = .ok (.iload_n 2, 1) := by decide +kernel
theorem dX8_wished_33 : decode cX8_wished 33 = .ok (.iadd, 1) := by decide +kernel
theorem dX8_wished_34 : decode cX8_wished 34 = .ok (.invokevirtual 59, 3) := by decide +kernel
theorem dX8_wished_37 : decode cX8_wished 37 = .ok (.goto 5, 3) := by decide +kernel
