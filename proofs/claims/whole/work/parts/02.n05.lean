theorem dX8_wished_40 : decode cX8_wished 40 = .ok (.bipush (-5), 2) := by decide +kernel
theorem dX8_wished_42 : decode cX8_wished 42 = .ok (.ireturn, 1) := by decide +kernel
set_option maxRecDepth 20000 in
theorem ggX8_ordered_X8_at : GoodIn wsX8_ordered wsX8_at := goodIn_r _ [5, 6, 7, 8, 9, 4, 10, 11, 12, 13, 14, 15, 16, 17, 18, 19, 20, 21, 22, 23, 24, 25, 26, 27, 28, 29, 30, 31, 32, 33, 34, 35] (by decide +kernel) (by decide +kernel)
set_option maxRecDepth 20000 in
theorem gX8_ordered_X8_at : GoodIn wsX8_ordered (wsV RX8 108 RX8 yX8_at wsX8_at) := goodIn_app (goodIn_of _ (by decide +kernel)) ggX8_ordered_X8_at
theorem dX8_ordered_0 : decode cX8_ordered 0 = .ok (.iload_n 1, 1) := by decide +kernel
theorem dX8_ordered_1 : decode cX8_ordered 1 = .ok (.ifCond .ge 8, 3) := by decide +kernel
theorem dX8_ordered_4 : decode cX8_ordered 4 = .ok (.bipush (-2), 2) := by decide +kernel
theorem dX8_ordered_6 : decode cX8_ordered 6 = .ok (.goto 8, 3) := by decide +kernel
theorem dX8_ordered_9 : decode cX8_ordered 9 = .ok (.aload_n 0, 1) := by decide +kernel
theorem dX8_ordered_10 : decode cX8_ordered 10 = .ok (.iload_n 1, 1) := by decide +kernel
theorem dX8_ordered_11 : decode cX8_ordered 11 = .ok (.invokevirtual 108, 3) := by decide +kernel
theorem dX8_ordered_14 : decode cX8_ordered 14 = .ok (.ireturn, 1) := by decide +kernel
set_option maxRecDepth 20000 in
theorem ggX8_envy_X8_doesEnvy : GoodIn wsX8_envy wsX8_doesEnvy := goodIn_r _ [5, 6, 7, 8, 4, 9, 10, 11, 12, 13, 14, 15, 16, 17, 18, 19, 20, 21, 22, 23, 24, 25, 26, 27, 28, 29, 30, 39, 40, 41, 42, 43, 44, 45, 46, 47, 48, 49, 50, 51] (by decide +kernel) (by decide +kernel)
set_option maxRecDepth 20000 in
theorem gX8_envy_X8_doesEnvy : GoodIn wsX8_envy (wsV RX8 120 RX8 yX8_doesEnvy wsX8_doesEnvy) := goodIn_app (goodIn_of _ (by decide +kernel)) ggX8_envy_X8_doesEnvy
set_option maxRecDepth 20000 in
theorem ggX8_envy_X8_isAhead : GoodIn wsX8_envy wsX8_isAhead := goodIn_r _ [34, 6, 7, 8, 4, 9, 10, 35, 36, 37, 38, 39, 40, 41, 42, 43, 44, 45, 46, 47, 48, 49, 50, 51] (by decide +kernel) (by decide +kernel)
set_option maxRecDepth 20000 in
theorem gX8_envy_X8_isAhead : GoodIn wsX8_envy (wsV RX8 77 RX8 yX8_isAhead wsX8_isAhead) := goodIn_app (goodIn_of _ (by decide +kernel)) ggX8_envy_X8_isAhead
theorem dX8_envy_0 : decode cX8_envy 0 = .ok (.aload_n 0, 1) := by decide +kernel
theorem dX8_envy_1 : decode cX8_envy 1 = .ok (.iload_n 1, 1) := by decide +kernel
theorem dX8_envy_2 : decode cX8_envy 2 = .ok (.iload_n 2, 1) := by decide +kernel
theorem dX8_envy_3 : decode cX8_envy 3 = .ok (.invokevirtual 120, 3) := by decide +kernel
theorem dX8_envy_6 : decode cX8_envy 6 = .ok (.ifCond .ne 7, 3) := by decide +kernel
theorem dX8_envy_9 : decode cX8_envy 9 = .ok (.iconst 0, 1) := by decide +kernel
theorem dX8_envy_10 : decode cX8_envy 10 = .ok (.goto 17, 3) := by decide +kernel
theorem dX8_envy_13 : decode cX8_envy 13 = .ok (.aload_n 0, 1) := by decide +kernel
theorem dX8_envy_14 : decode cX8_envy 14 = .ok (.iload_n 1, 1) := by decide +kernel
theorem dX8_envy_15 : decode cX8_envy 15 = .ok (.iload_n 2, 1) := by decide +kernel
theorem dX8_envy_16 : decode cX8_envy 16 = .ok (.invokevirtual 77, 3) := by decide +kernel
theorem dX8_envy_19 : decode cX8_envy 19 = .ok (.ifCond .eq 7, 3) := by decide +kernel
theorem dX8_envy_22 : decode cX8_envy 22 = .ok (.iconst 2, 1) := by decide +kernel
theorem dX8_envy_23 : decode cX8_envy 23 = .ok (.goto 4, 3) := by decide +kernel
theorem dX8_envy_26 : decode cX8_envy 26 = .ok (.iconst 1, 1) := by decide +kernel
theorem dX8_envy_27 : decode cX8_envy 27 = .ok (.ireturn, 1) := by decide +kernel
set_option maxRecDepth 20000 in
theorem ggX8_envies_X8_isHome : GoodIn wsX8_envies wsX8_isHome := goodIn_r _ [5, 6, 7, 8, 4, 9, 50, 51, 52, 53, 54, 55, 56, 57, 58, 59, 60, 61, 62] (by decide +kernel) (by decide +kernel)
set_option maxRecDepth 20000 in
theorem gX8_envies_X8_isHome : GoodIn wsX8_envies (wsV RX8 92 RX8 yX8_isHome wsX8_isHome) := goodIn_app (goodIn_of _ (by decide +kernel)) ggX8_envies_X8_isHome
set_option maxRecDepth 20000 in
theorem ggX8_envies_X8_envy : GoodIn wsX8_envies wsX8_envy := goodIn_r _ [13, 14, 15, 16, 4, 17, 18, 19, 20, 21, 6, 22, 23, 24, 25, 26, 27, 28, 29, 30, 31, 32, 33, 34, 35, 36, 37, 38, 39, 40, 41, 42, 43, 44, 45, 46, 47, 48, 49, 50, 51, 52, 53, 54, 55, 56, 57, 58, 59, 60, 61, 62] (by decide +kernel) (by decide +kernel)
set_option maxRecDepth 20000 in
theorem gX8_envies_X8_envy : GoodIn wsX8_envies (wsV RX8 181 RX8 yX8_envy wsX8_envy) := goodIn_app (goodIn_of _ (by decide +kernel)) ggX8_envies_X8_envy
theorem dX8_envies_0 : decode cX8_envies 0 = .ok (.aload_n 0, 1) := by decide +kernel
theorem dX8_envies_1 : decode cX8_envies 1 = .ok (.iload_n 1, 1) := by decide +kernel
theorem dX8_envies_2 : decode cX8_envies 2 = .ok (.invokevirtual 92, 3) := by decide +kernel
theorem dX8_envies_5 : decode cX8_envies 5 = .ok (.ifCond .eq 11, 3) := by decide +kernel
theorem dX8_envies_8 : decode cX8_envies 8 = .ok (.aload_n 0, 1) := by decide +kernel
theorem dX8_envies_9 : decode cX8_envies 9 = .ok (.iload_n 2, 1) := by decide +kernel
theorem dX8_envies_10 : decode cX8_envies 10 = .ok (.invokevirtual 92, 3) := by decide +kernel
theorem dX8_envies_13 : decode cX8_envies 13 = .ok (.ifCond .ne 5, 3) := by decide +kernel
theorem dX8_envies_16 : decode cX8_envies 16 = .ok (.iconst (-1), 1) := by decide +kernel
theorem dX8_envies_17 : decode cX8_envies 17 = .ok (.ireturn, 1) := by decide +kernel
theorem dX8_envies_18 : decode cX8_envies 18 = .ok (.iload_n 1, 1) := by decide +kernel
theorem dX8_envies_19 : decode cX8_envies 19 = .ok (.iload_n 2, 1) := by decide +kernel
theorem dX8_envies_20 : decode cX8_envies 20 = .ok (.if_icmp .ne 8, 3) := by decide +kernel
theorem dX8_envies_23 : decode cX8_envies 23 = .ok (.bipush (-2), 2) := by decide +kernel
theorem dX8_envies_25 : decode cX8_envies 25 = .ok (.goto 9, 3) := by decide +kernel
theorem dX8_envies_28 : decode cX8_envies 28 = .ok (.aload_n 0, 1) := by decide +kernel
theorem dX8_envies_29 : decode cX8_envies 29 = .ok (.iload_n 1, 1) := by decide +kernel
theorem dX8_envies_30 : decode cX8_envies 30 = .ok (.iload_n 2, 1) := by decide +kernel
theorem dX8_envies_31 : decode cX8_envies 31 = .ok (.invokevirtual 181, 3) := by decide +kernel
theorem dX8_envies_34 : decode cX8_envies 34 = .ok (.ireturn, 1) := by decide +kernel
set_option maxRecDepth 20000 in
theorem ggX8_wouldGet_X8_isHome : GoodIn wsX8_wouldGet wsX8_isHome := goodIn_r _ [5, 6, 7, 8, 4, 9, 50, 51, 52, 53, 54, 55, 56, 57, 58, 59, 60, 61, 62] (by decide +kernel) (by decide +kernel)
set_option maxRecDepth 20000 in
theorem gX8_wouldGet_X8_isHome : GoodIn wsX8_wouldGet (wsV RX8 92 RX8 yX8_isHome wsX8_isHome) := goodIn_app (goodIn_of _ (by decide +kernel)) ggX8_wouldGet_X8_isHome
set_option maxRecDepth 20000 in
theorem ggX8_wouldGet_X8_drawn : GoodIn wsX8_wouldGet wsX8_drawn := goodIn_r _ [13, 6, 14, 15, 16, 4, 17, 18, 19, 20, 21, 50, 51, 52, 53, 54, 55, 56, 57, 58, 59, 60, 61, 62] (by decide +kernel) (by decide +kernel)
set_option maxRecDepth 20000 in
theorem gX8_wouldGet_X8_drawn : GoodIn wsX8_wouldGet (wsV RX8 102 RX8 yX8_drawn wsX8_drawn) := goodIn_app (goodIn_of _ (by decide +kernel)) ggX8_wouldGet_X8_drawn
set_option maxRecDepth 20000 in
theorem ggX8_wouldGet_X8_at : GoodIn wsX8_wouldGet wsX8_at := goodIn_r _ [25, 6, 14, 15, 16, 4, 17, 18, 19, 20, 21, 26, 27, 28, 29, 30, 31, 32, 33, 50, 51, 52, 53, 54, 55, 56, 57, 58, 59, 60, 61, 62] (by decide +kernel) (by decide +kernel)
set_option maxRecDepth 20000 in
theorem gX8_wouldGet_X8_at : GoodIn wsX8_wouldGet (wsV RX8 108 RX8 yX8_at wsX8_at) := goodIn_app (goodIn_of _ (by decide +kernel)) ggX8_wouldGet_X8_at
set_option maxRecDepth 20000 in
theorem ggX8_wouldGet_X8_firstOf : GoodIn wsX8_wouldGet wsX8_firstOf := goodIn_r _ [37, 18, 19, 20, 4, 21, 6, 38, 39, 40, 41, 42, 43, 44, 45, 46, 47, 48, 49, 50, 51, 52, 53, 54, 55, 56, 57, 58, 59, 60, 61, 62] (by decide +kernel) (by decide +kernel)
set_option maxRecDepth 20000 in
theorem gX8_wouldGet_X8_firstOf : GoodIn wsX8_wouldGet (wsV RX8 114 RX8 yX8_firstOf wsX8_firstOf) := goodIn_app (goodIn_of _ (by decide +kernel)) ggX8_wouldGet_X8_firstOf
theorem dX8_wouldGet_0 : decode cX8_wouldGet 0 = .ok (.aload_n 0, 1) := by decide +kernel
theorem dX8_wouldGet_1 : decode cX8_wouldGet 1 = .ok (.iload_n 1, 1) := by decide +kernel
theorem dX8_wouldGet_2 : decode cX8_wouldGet 2 = .ok (.invokevirtual 92, 3) := by decide +kernel
theorem dX8_wouldGet_5 : decode cX8_wouldGet 5 = .ok (.ifCond .eq 17, 3) := by decide +kernel
theorem dX8_wouldGet_8 : decode cX8_wouldGet 8 = .ok (.iload_n 2, 1) := by decide +kernel
theorem dX8_wouldGet_9 : decode cX8_wouldGet 9 = .ok (.bipush (-5), 2) := by decide +kernel
theorem dX8_wouldGet_11 : decode cX8_wouldGet 11 = .ok (.if_icmp .eq 13, 3) := by decide +kernel
theorem dX8_wouldGet_14 : decode cX8_wouldGet 14 = .ok (.aload_n 0, 1) := by decide +kernel
theorem dX8_wouldGet_15 : decode cX8_wouldGet 15 = .ok (.iload_n 2, 1) := by decide +kernel
theorem dX8_wouldGet_16 : decode cX8_wouldGet 16 = .ok (.invokevirtual 92, 3) := by decide +kernel
theorem dX8_wouldGet_19 : decode cX8_wouldGet 19 = .ok (.ifCond .ne 5, 3) := by decide +kernel
theorem dX8_wouldGet_22 : decode cX8_wouldGet 22 = .ok (.iconst (-1), 1) := by decide +kernel
theorem dX8_wouldGet_23 : decode cX8_wouldGet 23 = .ok (.ireturn, 1) := by decide +kernel
theorem dX8_wouldGet_24 : decode cX8_wouldGet 24 = .ok (.iconst 0, 1) := by decide +kernel
theorem dX8_wouldGet_25 : decode cX8_wouldGet 25 = .ok (.istore_n 3, 1) := by decide +kernel
theorem dX8_wouldGet_26 : decode cX8_wouldGet 26 = .ok (.aload_n 0, 1) := by decide +kernel
theorem dX8_wouldGet_27 : decode cX8_wouldGet 27 = .ok (.invokevirtual 102, 3) := by decide +kernel
theorem dX8_wouldGet_30 : decode cX8_wouldGet 30 = .ok (.istore 4, 2) := by decide +kernel
theorem dX8_wouldGet_32 : decode cX8_wouldGet 32 = .ok (.iconst 0, 1) := by decide +kernel
theorem dX8_wouldGet_33 : decode cX8_wouldGet 33 = .ok (.istore 5, 2) := by decide +kernel
theorem dX8_wouldGet_35 : decode cX8_wouldGet 35 = .ok (.iload 5, 2) := by decide +kernel
theorem dX8_wouldGet_37 : decode cX8_wouldGet 37 = .ok (.iload 4, 2) := by decide +kernel
theorem dX8_wouldGet_39 : decode cX8_wouldGet 39 = .ok (.if_icmp .ge 64, 3) := by decide +kernel
theorem dX8_wouldGet_42 : decode cX8_wouldGet 42 = .ok (.aload_n 0, 1) := by decide +kernel
theorem dX8_wouldGet_43 : decode cX8_wouldGet 43 = .ok (.iload 5, 2) := by decide +kernel
theorem dX8_wouldGet_45 : decode cX8_wouldGet 45 = .ok (.invokevirtual 108, 3) := by decide +kernel
theorem dX8_wouldGet_48 : decode cX8_wouldGet 48 = .ok (.istore 6, 2) := by decide +kernel
theorem dX8_wouldGet_50 : decode cX8_wouldGet 50 = .ok (.iload 6, 2) := by decide +kernel
theorem dX8_wouldGet_52 : decode cX8_wouldGet 52 = .ok (.iload_n 2, 1) := by decide +kernel
theorem dX8_wouldGet_53 : decode cX8_wouldGet 53 = .ok (.if_icmp .ne 8, 3) := by decide +kernel
theorem dX8_wouldGet_56 : decode cX8_wouldGet 56 = .ok (.bipush (-5), 2) := by decide +kernel
theorem dX8_wouldGet_58 : decode cX8_wouldGet 58 = .ok (.goto 10, 3) := by decide +kernel
theorem dX8_wouldGet_61 : decode cX8_wouldGet 61 = .ok (.aload_n 0, 1) := by decide +kernel
theorem dX8_wouldGet_62 : decode cX8_wouldGet 62 = .ok (.iload 6, 2) := by decide +kernel
theorem dX8_wouldGet_64 : decode cX8_wouldGet 64 = .ok (.iload_n 3, 1) := by decide +kernel
theorem dX8_wouldGet_65 : decode cX8_wouldGet 65 = .ok (.invokevirtual 114, 3) := by decide +kernel
theorem dX8_wouldGet_68 : decode cX8_wouldGet 68 = .ok (.istore 7, 2) := by decide +kernel
theorem dX8_wouldGet_70 : decode cX8_wouldGet 70 = .ok (.iload 6, 2) := by decide +kernel
theorem dX8_wouldGet_72 : decode cX8_wouldGet 72 = .ok (.iload_n 1, 1) := by decide +kernel
theorem dX8_wouldGet_73 : decode cX8_wouldGet 73 = .ok (.if_icmp .ne 6, 3) := by decide +kernel
theorem dX8_wouldGet_76 : decode cX8_wouldGet 76 = .ok (.iload 7, 2) := by decide +kernel
theorem dX8_wouldGet_78 : decode cX8_wouldGet 78 = .ok (.ireturn, 1) := by decide +kernel
theorem dX8_wouldGet_79 : decode cX8_wouldGet 79 = .ok (.iload_n 3, 1) := by decide +kernel
theorem dX8_wouldGet_80 : decode cX8_wouldGet 80 = .ok (.iload 7, 2) := by decide +kernel
theorem dX8_wouldGet_82 : decode cX8_wouldGet 82 = .ok (.bipush (-5), 2) := by decide +kernel
theorem dX8_wouldGet_84 : decode cX8_wouldGet 84 = .ok (.if_icmp .ne 7, 3) := by decide +kernel
theorem dX8_wouldGet_87 : decode cX8_wouldGet 87 = .ok (.iconst 0, 1) := by decide +kernel
theorem dX8_wouldGet_88 : decode cX8_wouldGet 88 = .ok (.goto 7, 3) := by decide +kernel
theorem dX8_wouldGet_91 : decode cX8_wouldGet 91 = .ok (.iconst 1, 1) := by decide +kernel
theorem dX8_wouldGet_92 : decode cX8_wouldGet 92 = .ok (.iload 7, 2) := by decide +kernel
theorem dX8_wouldGet_94 : decode cX8_wouldGet 94 = .ok (.ishl, 1) := by decide +kernel
theorem dX8_wouldGet_95 : decode cX8_wouldGet 95 = .ok (.ior, 1) := by decide +kernel
theorem dX8_wouldGet_96 : decode cX8_wouldGet 96 = .ok (.istore_n 3, 1) := by decide +kernel
theorem dX8_wouldGet_97 : decode cX8_wouldGet 97 = .ok (.iinc 5 1, 3) := by decide +kernel
theorem dX8_wouldGet_100 : decode cX8_wouldGet 100 = .ok (.goto (-65), 3) := by decide +kernel
theorem dX8_wouldGet_103 : decode cX8_wouldGet 103 = .ok (.bipush (-5), 2) := by decide +kernel
theorem dX8_wouldGet_105 : decode cX8_wouldGet 105 = .ok (.ireturn, 1) := by decide +kernel
theorem dX8_ones_0 : decode cX8_ones 0 = .ok (.iconst 0, 1) := by decide +kernel
theorem dX8_ones_1 : decode cX8_ones 1 = .ok (.istore_n 1, 1) := by decide +kernel
theorem dX8_ones_2 : decode cX8_ones 2 = .ok (.iconst 0, 1) := by decide +kernel
theorem dX8_ones_3 : decode cX8_ones 3 = .ok (.istore_n 2, 1) := by decide +kernel
theorem dX8_ones_4 : decode cX8_ones 4 = .ok (.iload_n 2, 1) := by decide +kernel
theorem dX8_ones_5 : decode cX8_ones 5 = .ok (.bipush 12, 2) := by decide +kernel
theorem dX8_ones_7 : decode cX8_ones 7 = .ok (.if_icmp .ge 17, 3) := by decide +kernel
theorem dX8_ones_10 : decode cX8_ones 10 = .ok (.iload_n 1, 1) := by decide +kernel
theorem dX8_ones_11 : decode cX8_ones 11 = .ok (.iload_n 0, 1) := by decide +kernel
theorem dX8_ones_12 : decode cX8_ones 12 = .ok (.iload_n 2, 1) := by decide +kernel
theorem dX8_ones_13 : decode cX8_ones 13 = .ok (.ishr, 1) := by decide +kernel
theorem dX8_ones_14 : decode cX8_ones 14 = .ok (.iconst 1, 1) := by decide +kernel
theorem dX8_ones_15 : decode cX8_ones 15 = .ok (.iand, 1) := by decide +kernel
theorem dX8_ones_16 : decode cX8_ones 16 = .ok (.iadd, 1) := by decide +kernel
theorem dX8_ones_17 : decode cX8_ones 17 = .ok (.istore_n 1, 1) := by decide +kernel
theorem dX8_ones_18 : decode cX8_ones 18 = .ok (.iinc 2 1, 3) := by decide +kernel
theorem dX8_ones_21 : decode cX8_ones 21 = .ok (.goto (-17), 3) := by decide +kernel
theorem dX8_ones_24 : decode cX8_ones 24 = .ok (.iload_n 1, 1) := by decide +kernel
theorem dX8_ones_25 : decode cX8_ones 25 = .ok (.ireturn, 1) := by decide +kernel
set_option maxRecDepth 20000 in
theorem ggX8_goods_X8_of : GoodIn wsX8_goods wsX8_of := goodIn_r _ [5, 6, 19, 20, 21, 22, 23, 24, 25, 26, 27, 28, 29, 30, 31] (by decide +kernel) (by decide +kernel)
set_option maxRecDepth 20000 in
theorem gX8_goods_X8_of : GoodIn wsX8_goods (wsV RX8 59 RX8 yX8_of wsX8_of) := goodIn_app (goodIn_of _ (by decide +kernel)) ggX8_goods_X8_of
set_option maxRecDepth 20000 in
theorem ggX8_goods_X8_isEligible : GoodIn wsX8_goods wsX8_isEligible := goodIn_r _ [10, 1, 2, 3, 4, 5, 6, 11, 12, 13, 14, 15, 16, 17, 18, 19, 20, 21, 22, 23, 24, 25, 26, 27, 28, 29, 30, 31] (by decide +kernel) (by decide +kernel)
set_option maxRecDepth 20000 in
theorem gX8_goods_X8_isEligible : GoodIn wsX8_goods (wsV RX8 105 RX8 yX8_isEligible wsX8_isEligible) := goodIn_app (goodIn_of _ (by decide +kernel)) ggX8_goods_X8_isEligible
theorem dX8_goods_0 : decode cX8_goods 0 = .ok (.iconst 0, 1) := by decide +kernel
theorem dX8_goods_1 : decode cX8_goods 1 = .ok (.istore_n 2, 1) := by decide +kernel
theorem dX8_goods_2 : decode cX8_goods 2 = .ok (.iconst 0, 1) := by decide +kernel
theorem dX8_goods_3 : decode cX8_goods 3 = .ok (.istore_n 3, 1) := by decide +kernel
theorem dX8_goods_4 : decode cX8_goods 4 = .ok (.iload_n 3, 1) := by decide +kernel
theorem dX8_goods_5 : decode cX8_goods 5 = .ok (.aload_n 0, 1) := by decide +kernel
theorem dX8_goods_6 : decode cX8_goods 6 = .ok (.iload_n 1, 1) := by decide +kernel
theorem dX8_goods_7 : decode cX8_goods 7 = .ok (.bipush 7, 2) := by decide +kernel
theorem dX8_goods_9 : decode cX8_goods 9 = .ok (.invokevirtual 59, 3) := by decide +kernel
theorem dX8_goods_12 : decode cX8_goods 12 = .ok (.if_icmp .ge 41, 3) := by decide +kernel
theorem dX8_goods_15 : decode cX8_goods 15 = .ok (.aload_n 0, 1) := by decide +kernel
theorem dX8_goods_16 : decode cX8_goods 16 = .ok (.iload_n 1, 1) := by decide +kernel
theorem dX8_goods_17 : decode cX8_goods 17 = .ok (.bipush 8, 2) := by decide +kernel
theorem dX8_goods_19 : decode cX8_goods 19 = .ok (.iload_n 3, 1) := by decide +kernel
theorem dX8_goods_20 : decode cX8_goods 20 = .ok (.iadd, 1) := by decide +kernel
theorem dX8_goods_21 : decode cX8_goods 21 = .ok (.invokevirtual 59, 3) := by decide +kernel
theorem dX8_goods_24 : decode cX8_goods 24 = .ok (.istore 4, 2) := by decide +kernel
theorem dX8_goods_26 : decode cX8_goods 26 = .ok (.iload_n 2, 1) := by decide +kernel
theorem dX8_goods_27 : decode cX8_goods 27 = .ok (.aload_n 0, 1) := by decide +kernel
theorem dX8_goods_28 : decode cX8_goods 28 = .ok (.iload_n 1, 1) := by decide +kernel
theorem dX8_goods_29 : decode cX8_goods 29 = .ok (.iload 4, 2) := by decide +kernel
theorem dX8_goods_31 : decode cX8_goods 31 = .ok (.invokevirtual 105, 3) := by decide +kernel
theorem dX8_goods_34 : decode cX8_goods 34 = .ok (.ifCond .eq 10, 3) := by decide +kernel
theorem dX8_goods_37 : decode cX8_goods 37 = .ok (.iconst 1, 1) := by decide +kernel
theorem dX8_goods_38 : decode cX8_goods 38 = .ok (.iload 4, 2) := by decide +kernel
theorem dX8_goods_40 : decode cX8_goods 40 = .ok (.ishl, 1) := by decide +kernel
theorem dX8_goods_41 : decode cX8_goods 41 = .ok (.goto 4, 3) := by decide +kernel
theorem dX8_goods_44 : decode cX8_goods 44 = .ok (.iconst 0, 1) := by decide +kernel
theorem dX8_goods_45 : decode cX8_goods 45 = .ok (.ior, 1) := by decide +kernel
theorem dX8_goods_46 : decode cX8_goods 46 = .ok (.istore_n 2, 1) := by decide +kernel
theorem dX8_goods_47 : decode cX8_goods 47 = .ok (.iinc 3 1, 3) := by decide +kernel
theorem dX8_goods_50 : decode cX8_goods 50 = .ok (.goto (-46), 3) := by decide +kernel
theorem dX8_goods_53 : decode cX8_goods 53 = .ok (.iload_n 2, 1) := by decide +kernel
theorem dX8_goods_54 : decode cX8_goods 54 = .ok (.ireturn, 1) := by decide +kernel
set_option maxRecDepth 20000 in
theorem ggX8_most_X8_goods : GoodIn wsX8_most wsX8_goods := goodIn_r _ [7, 8, 9, 10, 6, 11, 2, 12, 13, 14, 15, 16, 17, 18, 19, 20, 21, 22, 23, 27, 28, 29, 30, 31, 32, 33, 34, 35, 36, 37, 38, 39] (by decide +kernel) (by decide +kernel)
set_option maxRecDepth 20000 in
theorem gX8_most_X8_goods : GoodIn wsX8_most (wsV RX8 184 RX8 yX8_goods wsX8_goods) := goodIn_app (goodIn_of _ (by decide +kernel)) ggX8_most_X8_goods
set_option maxRecDepth 20000 in
theorem ggX8_most_X8_ones : GoodIn wsX8_most wsX8_ones := goodIn_r _ [26] (by decide +kernel) (by decide +kernel)
set_option maxRecDepth 20000 in
theorem gX8_most_X8_ones : GoodIn wsX8_most (va_wsS RX8 187 yX8_ones wsX8_ones) := goodIn_app (goodIn_of _ (by decide +kernel)) ggX8_most_X8_ones
theorem dX8_most_0 : decode cX8_most 0 = .ok (.iconst 0, 1) := by decide +kernel
theorem dX8_most_1 : decode cX8_most 1 = .ok (.istore_n 1, 1) := by decide +kernel
theorem dX8_most_2 : decode cX8_most 2 = .ok (.iload_n 1, 1) := by decide +kernel
theorem dX8_most_3 : decode cX8_most 3 = .ok (.sipush 4096, 3) := by decide +kernel
theorem dX8_most_6 : decode cX8_most 6 = .ok (.if_icmp .ge 24, 3) := by decide +kernel
theorem dX8_most_9 : decode cX8_most 9 = .ok (.aload_n 0, 1) := by decide +kernel
theorem dX8_most_10 : decode cX8_most 10 = .ok (.getfield 32, 3) := by decide +kernel
theorem dX8_most_13 : decode cX8_most 13 = .ok (.iload_n 1, 1) := by decide +kernel
theorem dX8_most_14 : decode cX8_most 14 = .ok (.iload_n 1, 1) := by decide +kernel
theorem dX8_most_15 : decode cX8_most 15 = .ok (.ifCond .ne 7, 3) := by decide +kernel
theorem dX8_most_18 : decode cX8_most 18 = .ok (.iconst 1, 1) := by decide +kernel
theorem dX8_most_19 : decode cX8_most 19 = .ok (.goto 4, 3) := by decide +kernel
theorem dX8_most_22 : decode cX8_most 22 = .ok (.iconst 0, 1) := by decide +kernel
theorem dX8_most_23 : decode cX8_most 23 = .ok (.bastore, 1) := by decide +kernel
theorem dX8_most_24 : decode cX8_most 24 = .ok (.iinc 1 1, 3) := by decide +kernel
theorem dX8_most_27 : decode cX8_most 27 = .ok (.goto (-25), 3) := by decide +kernel
theorem dX8_most_30 : decode cX8_most 30 = .ok (.iconst 0, 1) := by decide +kernel
theorem dX8_most_31 : decode cX8_most 31 = .ok (.istore_n 1, 1) := by decide +kernel
theorem dX8_most_32 : decode cX8_most 32 = .ok (.iconst 0, 1) := by decide +kernel
theorem dX8_most_33 : decode cX8_most 33 = .ok (.istore_n 2, 1) := by decide +kernel
theorem dX8_most_34 : decode cX8_most 34 = .ok (.iload_n 2, 1) := by decide +kernel
theorem dX8_most_35 : decode cX8_most 35 = .ok (.aload_n 0, 1) := by decide +kernel
theorem dX8_most_36 : decode cX8_most 36 = .ok (.getfield 7, 3) := by decide +kernel
theorem dX8_most_39 : decode cX8_most 39 = .ok (.iconst 1, 1) := by decide +kernel
theorem dX8_most_40 : decode cX8_most 40 = .ok (.iaload, 1) := by decide +kernel
theorem dX8_most_41 : decode cX8_most 41 = .ok (.if_icmp .ge 84, 3) := by decide +kernel
theorem dX8_most_44 : decode cX8_most 44 = .ok (.aload_n 0, 1) := by decide +kernel
theorem dX8_most_45 : decode cX8_most 45 = .ok (.iload_n 2, 1) := by decide +kernel
theorem dX8_most_46 : decode cX8_most 46 = .ok (.invokevirtual 184, 3) := by decide +kernel
theorem dX8_most_49 : decode cX8_most 49 = .ok (.istore_n 3, 1) := by decide +kernel
theorem dX8_most_50 : decode cX8_most 50 = .ok (.sipush 4095, 3) := by decide +kernel
theorem dX8_most_53 : decode cX8_most 53 = .ok (.istore 4, 2) := by decide +kernel
theorem dX8_most_55 : decode cX8_most 55 = .ok (.iload 4, 2) := by decide +kernel
theorem dX8_most_57 : decode cX8_most 57 = .ok (.ifCond .lt 62, 3) := by decide +kernel
theorem dX8_most_60 : decode cX8_most 60 = .ok (.iconst 0, 1) := by decide +kernel
theorem dX8_most_61 : decode cX8_most 61 = .ok (.istore 5, 2) := by decide +kernel
theorem dX8_most_63 : decode cX8_most 63 = .ok (.iload 5, 2) := by decide +kernel
theorem dX8_most_65 : decode cX8_most 65 = .ok (.bipush 12, 2) := by decide +kernel
theorem dX8_most_67 : decode cX8_most 67 = .ok (.if_icmp .ge 46, 3) := by decide +kernel
theorem dX8_most_70 : decode cX8_most 70 = .ok (.aload_n 0, 1) := by decide +kernel
theorem dX8_most_71 : decode cX8_most 71 = .ok (.getfield 32, 3) := by decide +kernel
theorem dX8_most_74 : decode cX8_most 74 = .ok (.iload 4, 2) := by decide +kernel
theorem dX8_most_76 : decode cX8_most 76 = .ok (.baload, 1) := by decide +kernel
theorem dX8_most_77 : decode cX8_most 77 = .ok (.ifCond .eq 36, 3) := by decide +kernel
theorem dX8_most_80 : decode cX8_most 80 = .ok (.iload_n 3, 1) := by decide +kernel
theorem dX8_most_81 : decode cX8_most 81 = .ok (.iload 4, 2) := by decide +kernel
theorem dX8_most_83 : decode cX8_most 83 = .ok (.iconst (-1), 1) := by decide +kernel
theorem dX8_most_84 : decode cX8_most 84 = .ok (.ixor, 1) := by decide +kernel
theorem dX8_most_85 : decode cX8_most 85 = .ok (.iand, 1) := by decide +kernel
theorem dX8_most_86 : decode cX8_most 86 = .ok (.iconst 1, 1) := by decide +kernel
theorem dX8_most_87 : decode cX8_most 87 = .ok (.iload 5, 2) := by decide +kernel
theorem dX8_most_89 : decode cX8_most 89 = .ok (.ishl, 1) := by decide +kernel
theorem dX8_most_90 : decode cX8_most 90 = .ok (.iand, 1) := by decide +kernel
theorem dX8_most_91 : decode cX8_most 91 = .ok (.ifCond .eq 16, 3) := by decide +kernel
theorem dX8_most_94 : decode cX8_most 94 = .ok (.aload_n 0, 1) := by decide +kernel
theorem dX8_most_95 : decode cX8_most 95 = .ok (.getfield 32, 3) := by decide +kernel
theorem dX8_most_98 : decode cX8_most 98 = .ok (.iload 4, 2) := by decide +kernel
theorem dX8_most_100 : decode cX8_most 100 = .ok (.iconst 1, 1) := by decide +kernel
theorem dX8_most_101 : decode cX8_most 101 = .ok (.iload 5, 2) := by decide +kernel
theorem dX8_most_103 : decode cX8_most 103 = .ok (.ishl, 1) := by decide +kernel
theorem dX8_most_104 : decode cX8_most 104 = .ok (.ior, 1) := by decide +kernel
theorem dX8_most_105 : decode cX8_most 105 = .ok (.iconst 1, 1) := by decide +kernel
theorem dX8_most_106 : decode cX8_most 106 = .ok (.bastore, 1) := by decide +kernel
theorem dX8_most_107 : decode cX8_most 107 = .ok (.iinc 5 1, 3) := by decide +kernel
theorem dX8_most_110 : decode cX8_most 110 = .ok (.goto (-47), 3) := by decide +kernel
theorem dX8_most_113 : decode cX8_most 113 = .ok (.iinc 4 (-1), 3) := by decide +kernel
theorem dX8_most_116 : decode cX8_most 116 = .ok (.goto (-61), 3) := by decide +kernel
theorem dX8_most_119 : decode cX8_most 119 = .ok (.iinc 2 1, 3) := by decide +kernel
theorem dX8_most_122 : decode cX8_most 122 = .ok (.goto (-88), 3) := by decide +kernel
theorem dX8_most_125 : decode cX8_most 125 = .ok (.iconst 0, 1) := by decide +kernel
theorem dX8_most_126 : decode cX8_most 126 = .ok (.istore_n 2, 1) := by decide +kernel
theorem dX8_most_127 : decode cX8_most 127 = .ok (.iload_n 2, 1) := by decide +kernel
theorem dX8_most_128 : decode cX8_most 128 = .ok (.sipush 4096, 3) := by decide +kernel
theorem dX8_most_131 : decode cX8_most 131 = .ok (.if_icmp .ge 35, 3) := by decide +kernel
theorem dX8_most_134 : decode cX8_most 134 = .ok (.aload_n 0, 1) := by decide +kernel
theorem dX8_most_135 : decode cX8_most 135 = .ok (.getfield 32, 3) := by decide +kernel
theorem dX8_most_138 : decode cX8_most 138 = .ok (.iload_n 2, 1) := by decide +kernel
theorem dX8_most_139 : decode cX8_most 139 = .ok (.baload, 1) := by decide +kernel
theorem dX8_most_140 : decode cX8_most 140 = .ok (.ifCond .eq 18, 3) := by decide +kernel
theorem dX8_most_143 : decode cX8_most 143 = .ok (.iload_n 2, 1) := by decide +kernel
theorem dX8_most_144 : decode cX8_most 144 = .ok (.invokestatic 187, 3) := by decide +kernel
theorem dX8_most_147 : decode cX8_most 147 = .ok (.iload_n 1, 1) := by decide +kernel
theorem dX8_most_148 : decode cX8_most 148 = .ok (.if_icmp .le 10, 3) := by decide +kernel
theorem dX8_most_151 : decode cX8_most 151 = .ok (.iload_n 2, 1) := by decide +kernel
theorem dX8_most_152 : decode cX8_most 152 = .ok (.invokestatic 187, 3) := by decide +kernel
theorem dX8_most_155 : decode cX8_most 155 = .ok (.goto 4, 3) := by decide +kernel
theorem dX8_most_158 : decode cX8_most 158 = .ok (.iload_n 1, 1) := by decide +kernel
theorem dX8_most_159 : decode cX8_most 159 = .ok (.istore_n 1, 1) := by decide +kernel
theorem dX8_most_160 : decode cX8_most 160 = .ok (.iinc 2 1, 3) := by decide +kernel
theorem dX8_most_163 : decode cX8_most 163 = .ok (.goto (-36), 3) := by decide +kernel
theorem dX8_most_166 : decode cX8_most 166 = .ok (.iload_n 1, 1) := by decide +kernel
theorem dX8_most_167 : decode cX8_most 167 = .ok (.ireturn, 1) := by decide +kernel
set_option maxRecDepth 20000 in
theorem ggX8_pairs_X8_envy : GoodIn wsX8_pairs wsX8_envy := goodIn_r _ [6, 7, 8, 9, 5, 10, 11, 12, 13, 14, 1, 15, 16, 17, 18, 19, 20, 21, 22, 23, 24, 25, 26, 27, 28, 29, 30, 31, 32, 33, 34, 35, 36, 37, 38, 39, 40, 41, 42, 43, 44, 45, 46, 47, 48, 49, 50, 51, 52, 53, 54, 55] (by decide +kernel) (by decide +kernel)
set_option maxRecDepth 20000 in
theorem gX8_pairs_X8_envy : GoodIn wsX8_pairs (wsV RX8 181 RX8 yX8_envy wsX8_envy) := goodIn_app (goodIn_of _ (by decide +kernel)) ggX8_pairs_X8_envy
theorem dX8_pairs_0 : decode cX8_pairs 0 = .ok (.iconst 0, 1) := by decide +kernel
theorem dX8_pairs_1 : decode cX8_pairs 1 = .ok (.istore_n 2, 1) := by decide +kernel
theorem dX8_pairs_2 : decode cX8_pairs 2 = .ok (.iconst 0, 1) := by decide +kernel
theorem dX8_pairs_3 : decode cX8_pairs 3 = .ok (.istore_n 3, 1) := by decide +kernel
theorem dX8_pairs_4 : decode cX8_pairs 4 = .ok (.iload_n 3, 1) := by decide +kernel
theorem dX8_pairs_5 : decode cX8_pairs 5 = .ok (.aload_n 0, 1) := by decide +kernel
theorem dX8_pairs_6 : decode cX8_pairs 6 = .ok (.getfield 7, 3) := by decide +kernel
theorem dX8_pairs_9 : decode cX8_pairs 9 = .ok (.iconst 1, 1) := by decide +kernel
theorem dX8_pairs_10 : decode cX8_pairs 10 = .ok (.iaload, 1) := by decide +kernel
theorem dX8_pairs_11 : decode cX8_pairs 11 = .ok (.aload_n 0, 1) := by decide +kernel
theorem dX8_pairs_12 : decode cX8_pairs 12 = .ok (.getfield 7, 3) := by decide +kernel
theorem dX8_pairs_15 : decode cX8_pairs 15 = .ok (.iconst 1, 1) := by decide +kernel
theorem dX8_pairs_16 : decode cX8_pairs 16 = .ok (.iaload, 1) := by decide +kernel
theorem dX8_pairs_17 : decode cX8_pairs 17 = .ok (.imul, 1) := by decide +kernel
theorem dX8_pairs_18 : decode cX8_pairs 18 = .ok (.if_icmp .ge 41, 3) := by decide +kernel
theorem dX8_pairs_21 : decode cX8_pairs 21 = .ok (.iload_n 2, 1) := by decide +kernel
theorem dX8_pairs_22 : decode cX8_pairs 22 = .ok (.aload_n 0, 1) := by decide +kernel
theorem dX8_pairs_23 : decode cX8_pairs 23 = .ok (.iload_n 3, 1) := by decide +kernel
theorem dX8_pairs_24 : decode cX8_pairs 24 = .ok (.aload_n 0, 1) := by decide +kernel
theorem dX8_pairs_25 : decode cX8_pairs 25 = .ok (.getfield 7, 3) := by decide +kernel
theorem dX8_pairs_28 : decode cX8_pairs 28 = .ok (.iconst 1, 1) := by decide +kernel
theorem dX8_pairs_29 : decode cX8_pairs 29 = .ok (.iaload, 1) := by decide +kernel
theorem dX8_pairs_30 : decode cX8_pairs 30 = .ok (.idiv, 1) := by decide +kernel
theorem dX8_pairs_31 : decode cX8_pairs 31 = .ok (.iload_n 3, 1) := by decide +kernel
theorem dX8_pairs_32 : decode cX8_pairs 32 = .ok (.aload_n 0, 1) := by decide +kernel
theorem dX8_pairs_33 : decode cX8_pairs 33 = .ok (.getfield 7, 3) := by decide +kernel
theorem dX8_pairs_36 : decode cX8_pairs 36 = .ok (.iconst 1, 1) := by decide +kernel
theorem dX8_pairs_37 : decode cX8_pairs 37 = .ok (.iaload, 1) := by decide +kernel
theorem dX8_pairs_38 : decode cX8_pairs 38 = .ok (.irem, 1) := by decide +kernel
theorem dX8_pairs_39 : decode cX8_pairs 39 = .ok (.invokevirtual 181, 3) := by decide +kernel
theorem dX8_pairs_42 : decode cX8_pairs 42 = .ok (.iload_n 1, 1) := by decide +kernel
theorem dX8_pairs_43 : decode cX8_pairs 43 = .ok (.if_icmp .lt 7, 3) := by decide +kernel
theorem dX8_pairs_46 : decode cX8_pairs 46 = .ok (.iconst 1, 1) := by decide +kernel
theorem dX8_pairs_47 : decode cX8_pairs 47 = .ok (.goto 4, 3) := by decide +kernel
theorem dX8_pairs_50 : decode cX8_pairs 50 = .ok (.iconst 0, 1) := by decide +kernel
theorem dX8_pairs_51 : decode cX8_pairs 51 = .ok (.iadd, 1) := by decide +kernel
theorem dX8_pairs_52 : decode cX8_pairs 52 = .ok (.istore_n 2, 1) := by decide +kernel
theorem dX8_pairs_53 : decode cX8_pairs 53 = .ok (.iinc 3 1, 3) := by decide +kernel
theorem dX8_pairs_56 : decode cX8_pairs 56 = .ok (.goto (-52), 3) := by decide +kernel
theorem dX8_pairs_59 : decode cX8_pairs 59 = .ok (.iload_n 2, 1) := by decide +kernel
theorem dX8_pairs_60 : decode cX8_pairs 60 = .ok (.ireturn, 1) := by decide +kernel
set_option maxRecDepth 20000 in
theorem ggX8_inRings_X8_isInRing : GoodIn wsX8_inRings wsX8_isInRing := goodIn_r _ [6, 7, 8, 9, 5, 10, 11, 12, 13, 14, 1, 15, 16, 17, 18, 19, 20, 21, 22, 23, 24, 25, 26, 27, 28, 29, 30, 31, 32, 33, 34, 35, 36, 37, 38, 39, 40, 41, 42, 43, 44, 45, 46, 47, 48, 49, 50, 51] (by decide +kernel) (by decide +kernel)
set_option maxRecDepth 20000 in
theorem gX8_inRings_X8_isInRing : GoodIn wsX8_inRings (wsV RX8 135 RX8 yX8_isInRing wsX8_isInRing) := goodIn_app (goodIn_of _ (by decide +kernel)) ggX8_inRings_X8_isInRing
theorem dX8_inRings_0 : decode cX8_inRings 0 = .ok (.iconst 0, 1) := by decide +kernel
theorem dX8_inRings_1 : decode cX8_inRings 1 = .ok (.istore_n 1, 1) := by decide +kernel
theorem dX8_inRings_2 : decode cX8_inRings 2 = .ok (.iconst 0, 1) := by decide +kernel
theorem dX8_inRings_3 : decode cX8_inRings 3 = .ok (.istore_n 2, 1) := by decide +kernel
theorem dX8_inRings_4 : decode cX8_inRings 4 = .ok (.iload_n 2, 1) := by decide +kernel
theorem dX8_inRings_5 : decode cX8_inRings 5 = .ok (.aload_n 0, 1) := by decide +kernel
theorem dX8_inRings_6 : decode cX8_inRings 6 = .ok (.getfield 7, 3) := by decide +kernel
theorem dX8_inRings_9 : decode cX8_inRings 9 = .ok (.iconst 1, 1) := by decide +kernel
theorem dX8_inRings_10 : decode cX8_inRings 10 = .ok (.iaload, 1) := by decide +kernel
theorem dX8_inRings_11 : decode cX8_inRings 11 = .ok (.if_icmp .ge 25, 3) := by decide +kernel
theorem dX8_inRings_14 : decode cX8_inRings 14 = .ok (.iload_n 1, 1) := by decide +kernel
theorem dX8_inRings_15 : decode cX8_inRings 15 = .ok (.aload_n 0, 1) := by decide +kernel
theorem dX8_inRings_16 : decode cX8_inRings 16 = .ok (.iload_n 2, 1) := by decide +kernel
theorem dX8_inRings_17 : decode cX8_inRings 17 = .ok (.invokevirtual 135, 3) := by decide +kernel
theorem dX8_inRings_20 : decode cX8_inRings 20 = .ok (.ifCond .eq 7, 3) := by decide +kernel
theorem dX8_inRings_23 : decode cX8_inRings 23 = .ok (.iconst 1, 1) := by decide +kernel
theorem dX8_inRings_24 : decode cX8_inRings 24 = .ok (.goto 4, 3) := by decide +kernel
theorem dX8_inRings_27 : decode cX8_inRings 27 = .ok (.iconst 0, 1) := by decide +kernel
theorem dX8_inRings_28 : decode cX8_inRings 28 = .ok (.iadd, 1) := by decide +kernel
theorem dX8_inRings_29 : decode cX8_inRings 29 = .ok (.istore_n 1, 1) := by decide +kernel
theorem dX8_inRings_30 : decode cX8_inRings 30 = .ok (.iinc 2 1, 3) := by decide +kernel
theorem dX8_inRings_33 : decode cX8_inRings 33 = .ok (.goto (-29), 3) := by decide +kernel
theorem dX8_inRings_36 : decode cX8_inRings 36 = .ok (.iload_n 1, 1) := by decide +kernel
theorem dX8_inRings_37 : decode cX8_inRings 37 = .ok (.ireturn, 1) := by decide +kernel
set_option maxRecDepth 20000 in
theorem ggX8_count_X8_held : GoodIn wsX8_count wsX8_held := goodIn_r _ [8, 1, 9, 10, 11, 7, 12, 73, 74, 75, 76, 77, 78, 79, 80, 81, 82, 83, 84, 85] (by decide +kernel) (by decide +kernel)
set_option maxRecDepth 20000 in
theorem gX8_count_X8_held : GoodIn wsX8_count (wsV RX8 48 RX8 yX8_held wsX8_held) := goodIn_app (goodIn_of _ (by decide +kernel)) ggX8_count_X8_held
set_option maxRecDepth 20000 in
theorem ggX8_count_X8_drawn : GoodIn wsX8_count wsX8_drawn := goodIn_r _ [16, 1, 17, 18, 19, 7, 20, 9, 10, 11, 12, 73, 74, 75, 76, 77, 78, 79, 80, 81, 82, 83, 84, 85] (by decide +kernel) (by decide +kernel)
set_option maxRecDepth 20000 in
theorem gX8_count_X8_drawn : GoodIn wsX8_count (wsV RX8 102 RX8 yX8_drawn wsX8_drawn) := goodIn_app (goodIn_of _ (by decide +kernel)) ggX8_count_X8_drawn
set_option maxRecDepth 20000 in
theorem ggX8_count_X8_pairs : GoodIn wsX8_count wsX8_pairs := goodIn_r _ [24, 1, 25, 26, 27, 7, 28, 29, 30, 31, 32, 9, 10, 11, 12, 33, 34, 35, 36, 37, 38, 39, 40, 41, 42, 43, 44, 45, 46, 47, 48, 49, 50, 51, 52, 53, 54, 55, 56, 17, 18, 19, 20, 73, 74, 75, 76, 77, 78, 79, 80, 81, 82, 83, 84, 85] (by decide +kernel) (by decide +kernel)
set_option maxRecDepth 20000 in
theorem gX8_count_X8_pairs : GoodIn wsX8_count (wsV RX8 190 RX8 yX8_pairs wsX8_pairs) := goodIn_app (goodIn_of _ (by decide +kernel)) ggX8_count_X8_pairs
set_option maxRecDepth 20000 in
theorem ggX8_count_X8_inRings : GoodIn wsX8_count wsX8_inRings := goodIn_r _ [60, 1, 61, 62, 63, 7, 64, 65, 66, 67, 68, 9, 10, 11, 12, 69, 70, 71, 72, 41, 42, 43, 44, 45, 46, 47, 48, 49, 50, 51, 52, 33, 34, 35, 36, 37, 38, 39, 40, 73, 74, 75, 76, 77, 78, 79, 80, 81, 82, 83, 84, 85] (by decide +kernel) (by decide +kernel)
set_option maxRecDepth 20000 in
theorem gX8_count_X8_inRings : GoodIn wsX8_count (wsV RX8 193 RX8 yX8_inRings wsX8_inRings) := goodIn_app (goodIn_of _ (by decide +kernel)) ggX8_count_X8_inRings
theorem dX8_count_0 : decode cX8_count 0 = .ok (.iload_n 1, 1) := by decide +kernel
theorem dX8_count_1 : decode cX8_count 1 = .ok (.tableswitch 126 0 12 #[67, 67, 74, 79, 86, 91, 91, 99, 104, 104, 104, 116, 121], 67) := by decide +kernel
theorem dX8_count_68 : decode cX8_count 68 = .ok (.aload_n 0, 1) := by decide +kernel
theorem dX8_count_69 : decode cX8_count 69 = .ok (.getfield 7, 3) := by decide +kernel
theorem dX8_count_72 : decode cX8_count 72 = .ok (.iload_n 1, 1) := by decide +kernel
theorem dX8_count_73 : decode cX8_count 73 = .ok (.iaload, 1) := by decide +kernel
theorem dX8_count_74 : decode cX8_count 74 = .ok (.ireturn, 1) := by decide +kernel
theorem dX8_count_75 : decode cX8_count 75 = .ok (.aload_n 0, 1) := by decide +kernel
theorem dX8_count_76 : decode cX8_count 76 = .ok (.invokevirtual 48, 3) := by decide +kernel
theorem dX8_count_79 : decode cX8_count 79 = .ok (.ireturn, 1) := by decide +kernel
theorem dX8_count_80 : decode cX8_count 80 = .ok (.aload_n 0, 1) := by decide +kernel
theorem dX8_count_81 : decode cX8_count 81 = .ok (.getfield 7, 3) := by decide +kernel
theorem dX8_count_84 : decode cX8_count 84 = .ok (.iconst 2, 1) := by decide +kernel
theorem dX8_count_85 : decode cX8_count 85 = .ok (.iaload, 1) := by decide +kernel
theorem dX8_count_86 : decode cX8_count 86 = .ok (.ireturn, 1) := by decide +kernel
theorem dX8_count_87 : decode cX8_count 87 = .ok (.aload_n 0, 1) := by decide +kernel
theorem dX8_count_88 : decode cX8_count 88 = .ok (.invokevirtual 102, 3) := by decide +kernel
theorem dX8_count_91 : decode cX8_count 91 = .ok (.ireturn, 1) := by decide +kernel
theorem dX8_count_92 : decode cX8_count 92 = .ok (.aload_n 0, 1) := by decide +kernel
theorem dX8_count_93 : decode cX8_count 93 = .ok (.iload_n 1, 1) := by decide +kernel
theorem dX8_count_94 : decode cX8_count 94 = .ok (.iconst 4, 1) := by decide +kernel
theorem dX8_count_95 : decode cX8_count 95 = .ok (.isub, 1) := by decide +kernel
theorem dX8_count_96 : decode cX8_count 96 = .ok (.invokevirtual 190, 3) := by decide +kernel
theorem dX8_count_99 : decode cX8_count 99 = .ok (.ireturn, 1) := by decide +kernel
theorem dX8_count_100 : decode cX8_count 100 = .ok (.aload_n 0, 1) := by decide +kernel
theorem dX8_count_101 : decode cX8_count 101 = .ok (.invokevirtual 193, 3) := by decide +kernel
theorem dX8_count_104 : decode cX8_count 104 = .ok (.ireturn, 1) := by decide +kernel
theorem dX8_count_105 : decode cX8_count 105 = .ok (.aload_n 0, 1) := by decide +kernel
theorem dX8_count_106 : decode cX8_count 106 = .ok (.getfield 7, 3) := by decide +kernel
theorem dX8_count_109 : decode cX8_count 109 = .ok (.iconst 3, 1) := by decide +kernel
theorem dX8_count_110 : decode cX8_count 110 = .ok (.iload_n 1, 1) := by decide +kernel
theorem dX8_count_111 : decode cX8_count 111 = .ok (.iadd, 1) := by decide +kernel
theorem dX8_count_112 : decode cX8_count 112 = .ok (.bipush 8, 2) := by decide +kernel
theorem dX8_count_114 : decode cX8_count 114 = .ok (.isub, 1) := by decide +kernel
theorem dX8_count_115 : decode cX8_count 115 = .ok (.iaload, 1) := by decide +kernel
theorem dX8_count_116 : decode cX8_count 116 = .ok (.ireturn, 1) := by decide +kernel
theorem dX8_count_117 : decode cX8_count 117 = .ok (.aload_n 0, 1) := by decide +kernel
theorem dX8_count_118 : decode cX8_count 118 = .ok (.getfield 36, 3) := by decide +kernel
theorem dX8_count_121 : decode cX8_count 121 = .ok (.ireturn, 1) := by decide +kernel
theorem dX8_count_122 : decode cX8_count 122 = .ok (.aload_n 0, 1) := by decide +kernel
theorem dX8_count_123 : decode cX8_count 123 = .ok (.getfield 144, 3) := by decide +kernel
theorem dX8_count_126 : decode cX8_count 126 = .ok (.ireturn, 1) := by decide +kernel
theorem dX8_count_127 : decode cX8_count 127 = .ok (.bipush (-2), 2) := by decide +kernel
theorem dX8_count_129 : decode cX8_count 129 = .ok (.ireturn, 1) := by decide +kernel
theorem dJ9_max_7cf53_0 : decode cJ9_max_7cf53 0 = .ok (.iload_n 0, 1) := by decide +kernel
theorem dJ9_max_7cf53_1 : decode cJ9_max_7cf53 1 = .ok (.iload_n 1, 1) := by decide +kernel
theorem dJ9_max_7cf53_2 : decode cJ9_max_7cf53 2 = .ok (.if_icmp .lt 7, 3) := by decide +kernel
theorem dJ9_max_7cf53_5 : decode cJ9_max_7cf53 5 = .ok (.iload_n 0, 1) := by decide +kernel
theorem dJ9_max_7cf53_6 : decode cJ9_max_7cf53 6 = .ok (.goto 4, 3) := by decide +kernel
theorem dJ9_max_7cf53_9 : decode cJ9_max_7cf53 9 = .ok (.iload_n 1, 1) := by decide +kernel
theorem dJ9_max_7cf53_10 : decode cJ9_max_7cf53 10 = .ok (.ireturn, 1) := by decide +kernel
set_option maxRecDepth 20000 in
theorem ggL_law_X7_init : GoodIn wsL_law wsX7_init := goodIn_r _ [8, 9, 10, 11, 12, 13, 14, 15, 16, 17, 18, 19, 20, 21, 22, 23, 24, 25, 26, 27, 28, 29, 30, 31, 32, 33, 34, 35, 36, 37, 38, 39, 40, 41, 42, 43, 44, 45, 46, 47, 48, 49, 50, 51, 52, 53, 54, 55, 56, 57, 58, 59, 60, 61, 62, 63, 64, 65, 66, 67, 68, 69, 70, 71, 72, 73, 74, 75, 76, 77, 78, 79, 80, 790, 791, 792, 793, 794, 795, 796, 797, 770, 771, 772, 773, 774, 775, 776, 798, 799, 800, 801, 802, 803, 804, 805, 806, 807, 808, 809, 810, 811, 812, 813, 814, 815, 816, 817, 818, 819, 820, 821, 822, 823] (by decide +kernel) (by decide +kernel)
set_option maxRecDepth 20000 in
theorem gL_law_X7_init : GoodIn wsL_law (wsX7_init) := ggL_law_X7_init
set_option maxRecDepth 20000 in
theorem ggL_law_X8_init : GoodIn wsL_law wsX8_init := goodIn_r _ [83, 84, 10, 11, 42, 85, 86, 87, 65, 88, 89, 90, 91, 92, 93, 94, 777, 778, 779, 780, 781, 782, 783, 784, 785, 786, 787, 788, 789] (by decide +kernel) (by decide +kernel)
set_option maxRecDepth 20000 in
theorem gL_law_X8_init : GoodIn wsL_law (wsX8_init) := ggL_law_X8_init
set_option maxRecDepth 20000 in
theorem ggL_law_X7_addFlat : GoodIn wsL_law wsX7_addFlat := goodIn_r _ [98, 15, 99, 21, 100, 101, 102, 103, 104, 2, 105, 106, 107, 108, 20, 109, 110, 60, 111, 112, 113, 114, 115, 116, 117, 14, 118, 119, 39, 120, 41, 121, 122, 123, 124, 125, 126, 45, 127, 128, 129, 130, 131, 132, 47, 133, 54, 134, 135, 136, 137, 138, 139, 140, 141, 770, 771, 772, 773, 774, 775, 776, 790, 791, 792, 793, 794, 795, 796, 797, 813, 814, 798, 799, 815, 816, 817, 818, 819, 820, 821, 822, 823] (by decide +kernel) (by decide +kernel)
set_option maxRecDepth 20000 in
theorem gL_law_X7_addFlat : GoodIn wsL_law (wsV RL 13 RX7 yX7_addFlat wsX7_addFlat) := goodIn_app (goodIn_of _ (by decide +kernel)) ggL_law_X7_addFlat
set_option maxRecDepth 20000 in
theorem ggL_law_X8_addFlat : GoodIn wsL_law wsX8_addFlat := goodIn_r _ [145, 85, 146, 147, 5, 148, 149, 150, 151, 152, 94, 86, 153, 154, 155, 777, 778, 779, 780, 781, 782, 783, 784, 785, 786, 787, 788, 789] (by decide +kernel) (by decide +kernel)
set_option maxRecDepth 20000 in
theorem gL_law_X8_addFlat : GoodIn wsL_law (wsV RL 17 RX8 yX8_addFlat wsX8_addFlat) := goodIn_app (goodIn_of _ (by decide +kernel)) ggL_law_X8_addFlat
set_option maxRecDepth 20000 in
theorem ggL_law_X7_addHousehold : GoodIn wsL_law wsX7_addHousehold := goodIn_r _ [159, 15, 160, 21, 161, 103, 104, 2, 105, 106, 107, 108, 20, 109, 110, 60, 111, 112, 113, 114, 115, 116, 117, 14, 118, 119, 39, 120, 41, 121, 122, 123, 124, 125, 126, 45, 127, 128, 129, 130, 131, 132, 47, 133, 54, 134, 135, 136, 137, 138, 139, 140, 141, 162, 163, 164, 165, 770, 771, 772, 773, 774, 775, 776, 790, 791, 792, 793, 794, 795, 796, 797, 798, 799, 813, 814, 815, 816, 817, 818, 819, 820, 821, 822, 823] (by decide +kernel) (by decide +kernel)
set_option maxRecDepth 20000 in
theorem gL_law_X7_addHousehold : GoodIn wsL_law (wsV RL 18 RX7 yX7_addHousehold wsX7_addHousehold) := goodIn_app (goodIn_of _ (by decide +kernel)) ggL_law_X7_addHousehold
set_option maxRecDepth 20000 in
theorem ggL_law_X8_addHousehold : GoodIn wsL_law wsX8_addHousehold := goodIn_r _ [169, 85, 170, 171, 5, 172, 146, 147, 148, 149, 150, 151, 152, 94, 86, 153, 154, 155, 173, 174, 175, 176, 777, 778, 779, 780, 781, 782, 783, 784, 785, 786, 787, 788, 789] (by decide +kernel) (by decide +kernel)
set_option maxRecDepth 20000 in
theorem gL_law_X8_addHousehold : GoodIn wsL_law (wsV RL 21 RX8 yX8_addHousehold wsX8_addHousehold) := goodIn_app (goodIn_of _ (by decide +kernel)) ggL_law_X8_addHousehold
set_option maxRecDepth 20000 in
theorem ggL_law_X7_change : GoodIn wsL_law wsX7_change := goodIn_r _ [180, 15, 161, 181, 182, 21, 183, 184, 185, 14, 186, 120, 103, 104, 2, 105, 106, 107, 108, 20, 109, 110, 60, 111, 112, 113, 114, 115, 116, 117, 118, 119, 39, 41, 121, 122, 123, 124, 125, 126, 45, 127, 128, 129, 130, 131, 132, 47, 133, 54, 134, 135, 136, 137, 138, 139, 140, 141, 770, 771, 772, 773, 774, 775, 776, 790, 791, 792, 793, 794, 795, 796, 797, 815, 816, 817, 818, 819, 820, 821, 822, 823, 798, 799, 813, 814] (by decide +kernel) (by decide +kernel)
set_option maxRecDepth 20000 in
theorem gL_law_X7_change : GoodIn wsL_law (wsV RL 22 RX7 yX7_change wsX7_change) := goodIn_app (goodIn_of _ (by decide +kernel)) ggL_law_X7_change
set_option maxRecDepth 20000 in
theorem ggL_law_X8_change : GoodIn wsL_law wsX8_change := goodIn_r _ [190, 191, 192, 193, 5, 194, 85, 146, 147, 148, 170, 171, 172, 195, 196, 197, 198, 149, 150, 151, 152, 94, 86, 153, 154, 155, 173, 174, 175, 176, 777, 778, 779, 780, 781, 782, 783, 784, 785, 786, 787, 788, 789] (by decide +kernel) (by decide +kernel)
set_option maxRecDepth 20000 in
theorem gL_law_X8_change : GoodIn wsL_law (wsV RL 26 RX8 yX8_change wsX8_change) := goodIn_app (goodIn_of _ (by decide +kernel)) ggL_law_X8_change
set_option maxRecDepth 20000 in
theorem ggL_law_X7_wish : GoodIn wsL_law wsX7_wish := goodIn_r _ [202, 15, 161, 203, 21, 183, 184, 185, 14, 186, 120, 204, 205, 206, 207, 119, 208, 209, 210, 47, 211, 134, 54, 106, 107, 108, 20, 109, 110, 60, 111, 112, 113, 114, 115, 116, 117, 118, 39, 41, 121, 122, 123, 124, 125, 126, 45, 127, 128, 129, 130, 131, 132, 133, 135, 136, 137, 138, 139, 140, 141, 212, 213, 214, 215, 770, 771, 772, 773, 774, 775, 776, 790, 791, 792, 793, 794, 795, 796, 797, 815, 816, 817, 818, 819, 820, 821, 822, 823, 798, 799, 813, 814] (by decide +kernel) (by decide +kernel)
set_option maxRecDepth 20000 in
theorem gL_law_X7_wish : GoodIn wsL_law (wsV RL 27 RX7 yX7_wish wsX7_wish) := goodIn_app (goodIn_of _ (by decide +kernel)) ggL_law_X7_wish
set_option maxRecDepth 20000 in
theorem ggL_law_X8_wish : GoodIn wsL_law wsX8_wish := goodIn_r _ [219, 191, 192, 193, 5, 194, 85, 146, 147, 148, 220, 221, 222, 223, 195, 196, 197, 198, 224, 225, 226, 227, 149, 150, 151, 152, 94, 86, 153, 154, 155, 173, 174, 175, 176, 777, 778, 779, 780, 781, 782, 783, 784, 785, 786, 787, 788, 789] (by decide +kernel) (by decide +kernel)
set_option maxRecDepth 20000 in
theorem gL_law_X8_wish : GoodIn wsL_law (wsV RL 30 RX8 yX8_wish wsX8_wish) := goodIn_app (goodIn_of _ (by decide +kernel)) ggL_law_X8_wish
set_option maxRecDepth 20000 in
theorem ggL_law_X7_unwish : GoodIn wsL_law wsX7_unwish := goodIn_r _ [231, 15, 161, 21, 183, 184, 185, 14, 186, 120, 204, 205, 206, 207, 119, 208, 209, 210, 47, 211, 134, 54, 106, 107, 108, 20, 109, 110, 60, 111, 112, 113, 114, 115, 116, 117, 118, 39, 41, 121, 122, 123, 124, 125, 126, 45, 127, 128, 129, 130, 131, 132, 133, 135, 136, 137, 138, 139, 140, 141, 232, 233, 234, 235, 236, 770, 771, 772, 773, 774, 775, 776, 790, 791, 792, 793, 794, 795, 796, 797, 815, 816, 817, 818, 819, 820, 821, 822, 823, 798, 799, 813, 814] (by decide +kernel) (by decide +kernel)
set_option maxRecDepth 20000 in
theorem gL_law_X7_unwish : GoodIn wsL_law (wsV RL 31 RX7 yX7_unwish wsX7_unwish) := goodIn_app (goodIn_of _ (by decide +kernel)) ggL_law_X7_unwish
set_option maxRecDepth 20000 in
theorem ggL_law_X8_unwish : GoodIn wsL_law wsX8_unwish := goodIn_r _ [240, 191, 192, 193, 5, 194, 85, 146, 147, 148, 220, 221, 222, 223, 224, 225, 226, 227, 195, 196, 197, 198, 149, 150, 151, 152, 94, 86, 153, 154, 155, 241, 242, 243, 244, 173, 174, 175, 176, 777, 778, 779, 780, 781, 782, 783, 784, 785, 786, 787, 788, 789] (by decide +kernel) (by decide +kernel)
set_option maxRecDepth 20000 in
theorem gL_law_X8_unwish : GoodIn wsL_law (wsV RL 34 RX8 yX8_unwish wsX8_unwish) := goodIn_app (goodIn_of _ (by decide +kernel)) ggL_law_X8_unwish
set_option maxRecDepth 20000 in
theorem ggL_law_X7_readLists : GoodIn wsL_law wsX7_readLists := goodIn_r _ [248, 25, 15, 21, 249, 250, 251, 252, 24, 253, 254, 255, 256, 257, 258, 259, 67, 69, 68, 260, 261, 262, 263, 264, 265, 266, 267, 268, 269, 270, 271, 272, 66, 273, 274, 275, 276, 277, 184, 185, 14, 186, 120, 278, 205, 206, 207, 119, 279, 280, 281, 282, 106, 107, 108, 20, 109, 110, 60, 111, 112, 113, 114, 115, 116, 117, 118, 39, 41, 121, 122, 123, 124, 125, 126, 45, 127, 128, 129, 130, 131, 132, 47, 133, 54, 134, 135, 136, 137, 138, 139, 140, 141, 283, 284, 285, 286, 287, 288, 289, 213, 214, 215, 770, 771, 772, 773, 774, 775, 776, 800, 801, 802, 803, 804, 805, 806, 790, 791, 792, 793, 794, 795, 796, 797, 798, 799, 813, 814, 815, 816, 817, 818, 819, 820, 821, 822, 823] (by decide +kernel) (by decide +kernel)
set_option maxRecDepth 20000 in
theorem gL_law_X7_readLists : GoodIn wsL_law (wsV RL 35 RX7 yX7_readLists wsX7_readLists) := goodIn_app (goodIn_of _ (by decide +kernel)) ggL_law_X7_readLists
set_option maxRecDepth 20000 in
theorem ggL_law_X8_readLists : GoodIn wsL_law wsX8_readLists := goodIn_r _ [293, 294, 295, 91, 296, 297, 298, 5, 299, 300, 301, 302, 303, 304, 305, 306, 307, 308, 88, 309, 310, 311, 312, 146, 147, 148, 313, 314, 315, 316, 317, 318, 319, 320, 191, 192, 193, 194, 85, 220, 221, 222, 223, 321, 322, 323, 324, 149, 150, 151, 152, 94, 86, 153, 154, 155, 173, 174, 175, 176, 777, 778, 779, 780, 781, 782, 783, 784, 785, 786, 787, 788, 789] (by decide +kernel) (by decide +kernel)
set_option maxRecDepth 20000 in
theorem gL_law_X8_readLists : GoodIn wsL_law (wsV RL 39 RX8 yX8_readLists wsX8_readLists) := goodIn_app (goodIn_of _ (by decide +kernel)) ggL_law_X8_readLists
set_option maxRecDepth 20000 in
theorem ggL_law_X7_draw : GoodIn wsL_law wsX7_draw := goodIn_r _ [328, 15, 21, 161, 329, 183, 184, 185, 14, 186, 120, 103, 104, 2, 105, 330, 331, 332, 333, 41, 334, 106, 107, 108, 20, 109, 110, 60, 111, 112, 113, 114, 115, 116, 117, 118, 119, 39, 121, 122, 123, 124, 125, 126, 45, 127, 128, 129, 130, 131, 132, 47, 133, 54, 134, 135, 136, 137, 138, 139, 140, 141, 335, 336, 337, 338, 770, 771, 772, 773, 774, 775, 776, 790, 791, 792, 793, 794, 795, 796, 797, 815, 816, 817, 818, 819, 820, 821, 822, 823, 798, 799, 813, 814] (by decide +kernel) (by decide +kernel)
set_option maxRecDepth 20000 in
theorem gL_law_X7_draw : GoodIn wsL_law (wsV RL 40 RX7 yX7_draw wsX7_draw) := goodIn_app (goodIn_of _ (by decide +kernel)) ggL_law_X7_draw
set_option maxRecDepth 20000 in
theorem ggL_law_X8_draw : GoodIn wsL_law wsX8_draw := goodIn_r _ [342, 85, 191, 192, 193, 5, 194, 146, 147, 148, 195, 196, 197, 198, 149, 150, 151, 152, 94, 86, 153, 154, 155, 173, 174, 175, 176, 343, 344, 345, 346, 347, 348, 349, 350, 777, 778, 779, 780, 781, 782, 783, 784, 785, 786, 787, 788, 789] (by decide +kernel) (by decide +kernel)
set_option maxRecDepth 20000 in
theorem gL_law_X8_draw : GoodIn wsL_law (wsV RL 43 RX8 yX8_draw wsX8_draw) := goodIn_app (goodIn_of _ (by decide +kernel)) ggL_law_X8_draw
set_option maxRecDepth 20000 in
theorem ggL_law_X7_round : GoodIn wsL_law wsX7_round := goodIn_r _ [354, 15, 21, 355, 335, 336, 337, 14, 338, 120, 41, 334, 106, 107, 108, 20, 109, 110, 60, 111, 112, 113, 114, 115, 116, 117, 118, 119, 39, 121, 122, 123, 124, 125, 126, 45, 127, 128, 129, 130, 131, 132, 47, 133, 54, 134, 135, 136, 137, 138, 139, 140, 141, 356, 357, 358, 359, 43, 360, 361, 362, 363, 364, 365, 366, 367, 368, 369, 370, 371, 372, 373, 374, 375, 376, 377, 378, 379, 380, 381, 382, 383, 384, 385, 386, 387, 388, 205, 206, 207, 389, 390, 391, 392, 393, 394, 770, 771, 772, 773, 774, 775, 776, 790, 791, 792, 793, 794, 795, 796, 797, 815, 816, 817, 818, 819, 820, 821, 822, 823, 798, 799, 813, 814] (by decide +kernel) (by decide +kernel)
set_option maxRecDepth 20000 in
theorem gL_law_X7_round : GoodIn wsL_law (wsV RL 44 RX7 yX7_round wsX7_round) := goodIn_app (goodIn_of _ (by decide +kernel)) ggL_law_X7_round
set_option maxRecDepth 20000 in
theorem ggL_law_X8_round : GoodIn wsL_law wsX8_round := goodIn_r _ [398, 85, 343, 344, 345, 5, 346, 347, 348, 349, 350, 195, 196, 197, 198, 149, 150, 151, 152, 94, 86, 153, 154, 155, 399, 400, 401, 402, 403, 404, 405, 406, 407, 408, 409, 410, 411, 412, 413, 414, 415, 416, 417, 418, 419, 420, 421, 422, 423, 424, 425, 426, 427, 428, 429, 430, 173, 174, 175, 176, 777, 778, 779, 780, 781, 782, 783, 784, 785, 786, 787, 788, 789] (by decide +kernel) (by decide +kernel)
set_option maxRecDepth 20000 in
theorem gL_law_X8_round : GoodIn wsL_law (wsV RL 47 RX8 yX8_round wsX8_round) := goodIn_app (goodIn_of _ (by decide +kernel)) ggL_law_X8_round
set_option maxRecDepth 20000 in
theorem ggL_law_X7_decline : GoodIn wsL_law wsX7_decline := goodIn_r _ [434, 15, 161, 435, 21, 436, 437, 438, 439, 440, 441, 183, 184, 185, 14, 186, 120, 106, 107, 108, 20, 109, 110, 60, 111, 112, 113, 114, 115, 116, 117, 118, 119, 39, 41, 121, 122, 123, 124, 125, 126, 45, 127, 128, 129, 130, 131, 132, 47, 133, 54, 134, 135, 136, 137, 138, 139, 140, 141, 232, 233, 234, 235, 236, 209, 210, 211, 770, 771, 772, 773, 774, 775, 776, 790, 791, 792, 793, 794, 795, 796, 797, 815, 816, 817, 818, 819, 820, 821, 822, 823, 798, 799, 813, 814] (by decide +kernel) (by decide +kernel)
set_option maxRecDepth 20000 in
theorem gL_law_X7_decline : GoodIn wsL_law (wsV RL 48 RX7 yX7_decline wsX7_decline) := goodIn_app (goodIn_of _ (by decide +kernel)) ggL_law_X7_decline
set_option maxRecDepth 20000 in
theorem ggL_law_X8_decline : GoodIn wsL_law wsX8_decline := goodIn_r _ [445, 85, 191, 192, 193, 5, 194, 146, 147, 148, 195, 196, 197, 198, 149, 150, 151, 152, 94, 86, 153, 154, 155, 173, 174, 175, 176, 224, 225, 226, 227, 241, 242, 243, 244, 777, 778, 779, 780, 781, 782, 783, 784, 785, 786, 787, 788, 789] (by decide +kernel) (by decide +kernel)
set_option maxRecDepth 20000 in
theorem gL_law_X8_decline : GoodIn wsL_law (wsV RL 52 RX8 yX8_decline wsX8_decline) := goodIn_app (goodIn_of _ (by decide +kernel)) ggL_law_X8_decline
set_option maxRecDepth 20000 in
theorem ggL_law_X7_appeal : GoodIn wsL_law wsX7_appeal := goodIn_r _ [449, 15, 161, 450, 21, 451, 436, 183, 184, 185, 14, 186, 120, 103, 104, 2, 105, 106, 107, 108, 20, 109, 110, 60, 111, 112, 113, 114, 115, 116, 117, 118, 119, 39, 41, 121, 122, 123, 124, 125, 126, 45, 127, 128, 129, 130, 131, 132, 47, 133, 54, 134, 135, 136, 137, 138, 139, 140, 141, 452, 453, 454, 455, 456, 457, 458, 459, 334, 360, 361, 460, 461, 462, 463, 464, 465, 388, 205, 206, 207, 466, 467, 468, 469, 470, 471, 472, 473, 474, 475, 476, 477, 236, 209, 210, 211, 384, 385, 386, 387, 389, 390, 391, 392, 393, 394, 374, 375, 376, 377, 770, 771, 772, 773, 774, 775, 776, 790, 791, 792, 793, 794, 795, 796, 797, 815, 816, 817, 818, 819, 820, 821, 822, 823, 798, 799, 813, 814] (by decide +kernel) (by decide +kernel)
set_option maxRecDepth 20000 in
theorem gL_law_X7_appeal : GoodIn wsL_law (wsV RL 53 RX7 yX7_appeal wsX7_appeal) := goodIn_app (goodIn_of _ (by decide +kernel)) ggL_law_X7_appeal
set_option maxRecDepth 20000 in
theorem ggL_law_X8_appeal : GoodIn wsL_law wsX8_appeal := goodIn_r _ [481, 85, 191, 192, 193, 5, 194, 146, 147, 148, 195, 196, 197, 198, 149, 150, 151, 152, 94, 86, 153, 154, 155, 482, 483, 484, 485, 347, 348, 349, 350, 423, 424, 425, 426, 486, 487, 488, 489, 490, 491, 492, 493, 494, 495, 496, 497, 224, 225, 226, 227, 419, 420, 421, 422, 427, 428, 429, 430, 407, 408, 409, 410, 173, 174, 175, 176, 777, 778, 779, 780, 781, 782, 783, 784, 785, 786, 787, 788, 789] (by decide +kernel) (by decide +kernel)
set_option maxRecDepth 20000 in
theorem gL_law_X8_appeal : GoodIn wsL_law (wsV RL 56 RX8 yX8_appeal wsX8_appeal) := goodIn_app (goodIn_of _ (by decide +kernel)) ggL_law_X8_appeal
set_option maxRecDepth 20000 in
theorem ggL_law_X7_swap : GoodIn wsL_law wsX7_swap := goodIn_r _ [501, 29, 15, 21, 502, 503, 504, 28, 505, 506, 507, 73, 508, 509, 510, 511, 14, 512, 360, 382, 383, 474, 475, 476, 47, 477, 139, 236, 209, 210, 211, 134, 54, 513, 514, 515, 516, 120, 41, 384, 385, 386, 387, 39, 388, 205, 206, 207, 119, 389, 390, 391, 392, 135, 393, 394, 136, 517, 518, 519, 520, 521, 522, 523, 524, 525, 526, 527, 528, 106, 107, 108, 20, 109, 110, 60, 111, 112, 113, 114, 115, 116, 117, 118, 121, 122, 123, 124, 125, 126, 45, 127, 128, 129, 130, 131, 132, 133, 137, 138, 140, 141, 529, 530, 531, 532, 533, 534, 535, 536, 537, 538, 539, 770, 771, 772, 773, 774, 775, 776, 790, 791, 792, 793, 794, 795, 796, 797, 807, 808, 815, 816, 817, 818, 819, 820, 821, 822, 823, 813, 814, 798, 799] (by decide +kernel) (by decide +kernel)
set_option maxRecDepth 20000 in
theorem gL_law_X7_swap : GoodIn wsL_law (wsV RL 57 RX7 yX7_swap wsX7_swap) := goodIn_app (goodIn_of _ (by decide +kernel)) ggL_law_X7_swap
set_option maxRecDepth 20000 in
theorem ggL_law_X8_swap : GoodIn wsL_law wsX8_swap := goodIn_r _ [543, 544, 545, 546, 5, 547, 85, 548, 549, 550, 551, 552, 553, 554, 555, 195, 196, 197, 198, 556, 557, 558, 559, 419, 420, 421, 422, 423, 424, 425, 426, 427, 428, 429, 430, 494, 495, 496, 497, 224, 225, 226, 227, 149, 150, 151, 152, 94, 86, 153, 154, 155, 560, 561, 562, 563, 89, 90, 173, 174, 175, 176, 777, 778, 779, 780, 781, 782, 783, 784, 785, 786, 787, 788, 789] (by decide +kernel) (by decide +kernel)
set_option maxRecDepth 20000 in
theorem gL_law_X8_swap : GoodIn wsL_law (wsV RL 60 RX8 yX8_swap wsX8_swap) := goodIn_app (goodIn_of _ (by decide +kernel)) ggL_law_X8_swap
set_option maxRecDepth 20000 in
theorem ggL_law_X7_moveOut : GoodIn wsL_law wsX7_moveOut := goodIn_r _ [567, 15, 161, 435, 21, 183, 184, 185, 14, 186, 120, 106, 107, 108, 20, 109, 110, 60, 111, 112, 113, 114, 115, 116, 117, 118, 119, 39, 41, 121, 122, 123, 124, 125, 126, 45, 127, 128, 129, 130, 131, 132, 47, 133, 54, 134, 135, 136, 137, 138, 139, 140, 141, 770, 771, 772, 773, 774, 775, 776, 790, 791, 792, 793, 794, 795, 796, 797, 815, 816, 817, 818, 819, 820, 821, 822, 823, 798, 799, 813, 814] (by decide +kernel) (by decide +kernel)
set_option maxRecDepth 20000 in
theorem gL_law_X7_moveOut : GoodIn wsL_law (wsV RL 61 RX7 yX7_moveOut wsX7_moveOut) := goodIn_app (goodIn_of _ (by decide +kernel)) ggL_law_X7_moveOut
set_option maxRecDepth 20000 in
theorem ggL_law_X8_moveOut : GoodIn wsL_law wsX8_moveOut := goodIn_r _ [571, 191, 192, 193, 5, 194, 85, 146, 147, 148, 195, 196, 197, 198, 149, 150, 151, 152, 94, 86, 153, 154, 155, 173, 174, 175, 176, 777, 778, 779, 780, 781, 782, 783, 784, 785, 786, 787, 788, 789] (by decide +kernel) (by decide +kernel)
set_option maxRecDepth 20000 in
theorem gL_law_X8_moveOut : GoodIn wsL_law (wsV RL 64 RX8 yX8_moveOut wsX8_moveOut) := goodIn_app (goodIn_of _ (by decide +kernel)) ggL_law_X8_moveOut
set_option maxRecDepth 20000 in
theorem ggL_law_X7_type : GoodIn wsL_law wsX7_type := goodIn_r _ [575, 25, 576, 577, 578, 579, 24, 580, 272, 66, 770, 771, 772, 773, 774, 775, 776, 800, 801, 802, 803, 804, 805, 806] (by decide +kernel) (by decide +kernel)
set_option maxRecDepth 20000 in
theorem gL_law_X7_type : GoodIn wsL_law (wsV RL 65 RX7 yX7_type wsX7_type) := goodIn_app (goodIn_of _ (by decide +kernel)) ggL_law_X7_type
set_option maxRecDepth 20000 in
theorem ggL_law_X8_type : GoodIn wsL_law wsX8_type := goodIn_r _ [584, 300, 88, 777, 778, 779, 780, 781, 782, 783, 784, 785, 786, 787, 788, 789] (by decide +kernel) (by decide +kernel)
set_option maxRecDepth 20000 in
theorem gL_law_X8_type : GoodIn wsL_law (wsV RL 69 RX8 yX8_type wsX8_type) := goodIn_app (goodIn_of _ (by decide +kernel)) ggL_law_X8_type
set_option maxRecDepth 20000 in
theorem ggL_law_X7_clearText : GoodIn wsL_law wsX7_clearText := goodIn_r _ [588, 25, 576, 770, 771, 772, 773, 774, 775, 776, 800, 801, 802, 803, 804, 805, 806] (by decide +kernel) (by decide +kernel)
set_option maxRecDepth 20000 in
theorem gL_law_X7_clearText : GoodIn wsL_law (wsV RL 70 RX7 yX7_clearText wsX7_clearText) := goodIn_app (goodIn_of _ (by decide +kernel)) ggL_law_X7_clearText
set_option maxRecDepth 20000 in
theorem ggL_law_X8_clearText : GoodIn wsL_law wsX8_clearText := goodIn_r _ [592, 300, 777, 778, 779, 780, 781, 782, 783, 784, 785, 786, 787, 788, 789] (by decide +kernel) (by decide +kernel)
set_option maxRecDepth 20000 in
theorem gL_law_X8_clearText : GoodIn wsL_law (wsV RL 73 RX8 yX8_clearText wsX8_clearText) := goodIn_app (goodIn_of _ (by decide +kernel)) ggL_law_X8_clearText
set_option maxRecDepth 20000 in
theorem ggL_law_X7_undo : GoodIn wsL_law wsX7_undo := goodIn_r _ [596, 21, 597, 15, 598, 599, 600, 20, 601, 110, 60, 115, 116, 117, 14, 118, 119, 39, 120, 41, 121, 122, 123, 124, 125, 126, 45, 127, 128, 129, 130, 131, 132, 47, 133, 54, 134, 135, 136, 137, 138, 139, 140, 141, 770, 771, 772, 773, 774, 775, 776, 798, 799, 790, 791, 792, 793, 794, 795, 796, 797, 813, 814, 815, 816, 817, 818, 819, 820, 821, 822, 823] (by decide +kernel) (by decide +kernel)
set_option maxRecDepth 20000 in
theorem gL_law_X7_undo : GoodIn wsL_law (wsV RL 74 RX7 yX7_undo wsX7_undo) := goodIn_app (goodIn_of _ (by decide +kernel)) ggL_law_X7_undo
set_option maxRecDepth 20000 in
theorem ggL_law_X8_undo : GoodIn wsL_law wsX8_undo := goodIn_r _ [605, 94, 86, 85, 153, 154, 5, 155, 777, 778, 779, 780, 781, 782, 783, 784, 785, 786, 787, 788, 789] (by decide +kernel) (by decide +kernel)
set_option maxRecDepth 20000 in
theorem gL_law_X8_undo : GoodIn wsL_law (wsV RL 77 RX8 yX8_undo wsX8_undo) := goodIn_app (goodIn_of _ (by decide +kernel)) ggL_law_X8_undo
set_option maxRecDepth 20000 in
theorem ggL_law_X7_keep : GoodIn wsL_law wsX7_keep := goodIn_r _ [609, 16, 15, 17, 610, 116, 117, 14, 118, 119, 39, 120, 41, 121, 122, 123, 124, 125, 126, 45, 127, 128, 129, 130, 131, 132, 47, 133, 54, 134, 135, 136, 137, 138, 139, 140, 141, 611, 612, 613, 614, 360, 770, 771, 772, 773, 774, 775, 776, 790, 791, 792, 793, 794, 795, 796, 797, 813, 814, 815, 816, 817, 818, 819, 820, 821, 822, 823] (by decide +kernel) (by decide +kernel)
set_option maxRecDepth 20000 in
theorem gL_law_X7_keep : GoodIn wsL_law (wsV RL 78 RX7 yX7_keep wsX7_keep) := goodIn_app (goodIn_of _ (by decide +kernel)) ggL_law_X7_keep
set_option maxRecDepth 20000 in
theorem ggL_law_X8_keep : GoodIn wsL_law wsX8_keep := goodIn_r _ [618, 85, 87, 619, 153, 154, 5, 155, 620, 621, 622, 623, 195, 196, 197, 198, 777, 778, 779, 780, 781, 782, 783, 784, 785, 786, 787, 788, 789] (by decide +kernel) (by decide +kernel)
set_option maxRecDepth 20000 in
theorem gL_law_X8_keep : GoodIn wsL_law (wsV RL 81 RX8 yX8_keep wsX8_keep) := goodIn_app (goodIn_of _ (by decide +kernel)) ggL_law_X8_keep
set_option maxRecDepth 20000 in
theorem ggL_law_X7_restore : GoodIn wsL_law wsX7_restore := goodIn_r _ [627, 17, 21, 15, 16, 106, 107, 108, 20, 109, 110, 60, 111, 112, 113, 114, 115, 116, 117, 14, 118, 119, 39, 120, 41, 121, 122, 123, 124, 125, 126, 45, 127, 128, 129, 130, 131, 132, 47, 133, 54, 134, 135, 136, 137, 138, 139, 140, 141, 610, 611, 612, 613, 614, 360, 770, 771, 772, 773, 774, 775, 776, 798, 799, 790, 791, 792, 793, 794, 795, 796, 797, 813, 814, 815, 816, 817, 818, 819, 820, 821, 822, 823] (by decide +kernel) (by decide +kernel)
set_option maxRecDepth 20000 in
theorem gL_law_X7_restore : GoodIn wsL_law (wsV RL 82 RX7 yX7_restore wsX7_restore) := goodIn_app (goodIn_of _ (by decide +kernel)) ggL_law_X7_restore
set_option maxRecDepth 20000 in
theorem ggL_law_X8_restore : GoodIn wsL_law wsX8_restore := goodIn_r _ [631, 619, 87, 85, 149, 150, 151, 5, 152, 94, 86, 153, 154, 155, 620, 621, 622, 623, 195, 196, 197, 198, 777, 778, 779, 780, 781, 782, 783, 784, 785, 786, 787, 788, 789] (by decide +kernel) (by decide +kernel)
set_option maxRecDepth 20000 in
theorem gL_law_X8_restore : GoodIn wsL_law (wsV RL 85 RX8 yX8_restore wsX8_restore) := goodIn_app (goodIn_of _ (by decide +kernel)) ggL_law_X8_restore
set_option maxRecDepth 20000 in
theorem ggL_law_X7_flat : GoodIn wsL_law wsX7_flat := goodIn_r _ [635, 15, 100, 101, 102, 204, 205, 206, 14, 207, 119, 636, 514, 515, 516, 120, 41, 360, 637, 638, 639, 640, 641, 209, 210, 47, 211, 134, 54, 642, 643, 644, 645, 384, 385, 386, 387, 39, 388, 389, 390, 391, 392, 135, 393, 394, 136, 770, 771, 772, 773, 774, 775, 776, 790, 791, 792, 793, 794, 795, 796, 797, 813, 814, 815, 816, 817, 818, 819, 820, 821, 822, 823] (by decide +kernel) (by decide +kernel)
set_option maxRecDepth 20000 in
theorem gL_law_X7_flat : GoodIn wsL_law (wsV RL 86 RX7 yX7_flat wsX7_flat) := goodIn_app (goodIn_of _ (by decide +kernel)) ggL_law_X7_flat
set_option maxRecDepth 20000 in
theorem ggL_law_X8_flat : GoodIn wsL_law wsX8_flat := goodIn_r _ [649, 220, 221, 222, 5, 223, 85, 146, 147, 148, 423, 424, 425, 426, 427, 428, 429, 430, 556, 557, 558, 559, 195, 196, 197, 198, 650, 651, 652, 653, 419, 420, 421, 422, 224, 225, 226, 227, 777, 778, 779, 780, 781, 782, 783, 784, 785, 786, 787, 788, 789] (by decide +kernel) (by decide +kernel)
set_option maxRecDepth 20000 in
theorem gL_law_X8_flat : GoodIn wsL_law (wsV RL 89 RX8 yX8_flat wsX8_flat) := goodIn_app (goodIn_of _ (by decide +kernel)) ggL_law_X8_flat
set_option maxRecDepth 20000 in
theorem ggL_law_X7_household : GoodIn wsL_law wsX7_household := goodIn_r _ [657, 15, 161, 182, 181, 329, 436, 435, 203, 450, 658, 183, 184, 185, 14, 186, 120, 659, 371, 372, 373, 334, 41, 374, 375, 376, 47, 377, 137, 138, 660, 510, 511, 512, 360, 382, 383, 474, 475, 476, 477, 139, 236, 209, 210, 211, 134, 54, 513, 514, 515, 516, 384, 385, 386, 387, 39, 388, 205, 206, 207, 119, 389, 390, 391, 392, 135, 393, 394, 136, 770, 771, 772, 773, 774, 775, 776, 790, 791, 792, 793, 794, 795, 796, 797, 815, 816, 817, 818, 819, 820, 821, 822, 823, 813, 814] (by decide +kernel) (by decide +kernel)
set_option maxRecDepth 20000 in
theorem gL_law_X7_household : GoodIn wsL_law (wsV RL 90 RX7 yX7_household wsX7_household) := goodIn_app (goodIn_of _ (by decide +kernel)) ggL_law_X7_household
set_option maxRecDepth 20000 in
theorem ggL_law_X8_household : GoodIn wsL_law wsX8_household := goodIn_r _ [664, 191, 192, 193, 5, 194, 85, 146, 147, 148, 195, 196, 197, 198, 347, 348, 349, 350, 403, 404, 405, 406, 407, 408, 409, 410, 552, 553, 554, 555, 556, 557, 558, 559, 419, 420, 421, 422, 423, 424, 425, 426, 427, 428, 429, 430, 494, 495, 496, 497, 224, 225, 226, 227, 777, 778, 779, 780, 781, 782, 783, 784, 785, 786, 787, 788, 789] (by decide +kernel) (by decide +kernel)
set_option maxRecDepth 20000 in
theorem gL_law_X8_household : GoodIn wsL_law (wsV RL 93 RX8 yX8_household wsX8_household) := goodIn_app (goodIn_of _ (by decide +kernel)) ggL_law_X8_household
set_option maxRecDepth 20000 in
theorem ggL_law_X7_wished : GoodIn wsL_law wsX7_wished := goodIn_r _ [668, 15, 161, 203, 669, 183, 184, 185, 14, 186, 120, 770, 771, 772, 773, 774, 775, 776, 790, 791, 792, 793, 794, 795, 796, 797, 815, 816, 817, 818, 819, 820, 821, 822, 823] (by decide +kernel) (by decide +kernel)
set_option maxRecDepth 20000 in
theorem gL_law_X7_wished : GoodIn wsL_law (wsV RL 94 RX7 yX7_wished wsX7_wished) := goodIn_app (goodIn_of _ (by decide +kernel)) ggL_law_X7_wished
set_option maxRecDepth 20000 in
theorem ggL_law_X8_wished : GoodIn wsL_law wsX8_wished := goodIn_r _ [673, 191, 192, 193, 5, 194, 85, 146, 147, 148, 195, 196, 197, 198, 777, 778, 779, 780, 781, 782, 783, 784, 785, 786, 787, 788, 789] (by decide +kernel) (by decide +kernel)
set_option maxRecDepth 20000 in
theorem gL_law_X8_wished : GoodIn wsL_law (wsV RL 97 RX8 yX8_wished wsX8_wished) := goodIn_app (goodIn_of _ (by decide +kernel)) ggL_law_X8_wished
set_option maxRecDepth 20000 in
theorem ggL_law_X7_ordered : GoodIn wsL_law wsX7_ordered := goodIn_r _ [677, 15, 678, 679, 367, 368, 14, 369, 120, 41, 43, 370, 371, 372, 373, 334, 374, 375, 376, 47, 377, 137, 138, 770, 771, 772, 773, 774, 775, 776, 790, 791, 792, 793, 794, 795, 796, 797, 815, 816, 817, 818, 819, 820, 821, 822, 823] (by decide +kernel) (by decide +kernel)
set_option maxRecDepth 20000 in
theorem gL_law_X7_ordered : GoodIn wsL_law (wsV RL 98 RX7 yX7_ordered wsX7_ordered) := goodIn_app (goodIn_of _ (by decide +kernel)) ggL_law_X7_ordered
set_option maxRecDepth 20000 in
theorem ggL_law_X8_ordered : GoodIn wsL_law wsX8_ordered := goodIn_r _ [683, 399, 400, 401, 5, 402, 85, 347, 348, 349, 350, 195, 196, 197, 198, 403, 404, 405, 406, 407, 408, 409, 410, 777, 778, 779, 780, 781, 782, 783, 784, 785, 786, 787, 788, 789] (by decide +kernel) (by decide +kernel)
set_option maxRecDepth 20000 in
theorem gL_law_X8_ordered : GoodIn wsL_law (wsV RL 101 RX8 yX8_ordered wsX8_ordered) := goodIn_app (goodIn_of _ (by decide +kernel)) ggL_law_X8_ordered
set_option maxRecDepth 20000 in
theorem ggL_law_X7_envies : GoodIn wsL_law wsX7_envies := goodIn_r _ [687, 15, 161, 183, 184, 185, 14, 186, 120, 688, 471, 472, 473, 360, 474, 475, 476, 47, 477, 139, 236, 209, 210, 211, 134, 54, 384, 385, 386, 387, 39, 388, 205, 206, 207, 119, 389, 390, 391, 392, 135, 393, 394, 136, 374, 375, 376, 377, 137, 138, 770, 771, 772, 773, 774, 775, 776, 790, 791, 792, 793, 794, 795, 796, 797, 815, 816, 817, 818, 819, 820, 821, 822, 823, 813, 814] (by decide +kernel) (by decide +kernel)
set_option maxRecDepth 20000 in
theorem gL_law_X7_envies : GoodIn wsL_law (wsV RL 102 RX7 yX7_envies wsX7_envies) := goodIn_app (goodIn_of _ (by decide +kernel)) ggL_law_X7_envies
set_option maxRecDepth 20000 in
theorem ggL_law_X8_envies : GoodIn wsL_law wsX8_envies := goodIn_r _ [692, 191, 192, 193, 5, 194, 85, 146, 147, 148, 693, 694, 695, 696, 490, 491, 492, 493, 195, 196, 197, 198, 494, 495, 496, 497, 224, 225, 226, 227, 419, 420, 421, 422, 423, 424, 425, 426, 427, 428, 429, 430, 407, 408, 409, 410, 347, 348, 349, 350, 777, 778, 779, 780, 781, 782, 783, 784, 785, 786, 787, 788, 789] (by decide +kernel) (by decide +kernel)
set_option maxRecDepth 20000 in
theorem gL_law_X8_envies : GoodIn wsL_law (wsV RL 105 RX8 yX8_envies wsX8_envies) := goodIn_app (goodIn_of _ (by decide +kernel)) ggL_law_X8_envies
set_option maxRecDepth 20000 in
theorem ggL_law_X7_wouldGet : GoodIn wsL_law wsX7_wouldGet := goodIn_r _ [700, 15, 183, 184, 185, 14, 186, 120, 701, 702, 703, 704, 43, 41, 366, 367, 368, 369, 370, 371, 372, 373, 334, 374, 375, 376, 47, 377, 137, 138, 378, 379, 380, 381, 382, 383, 384, 385, 386, 387, 39, 388, 205, 206, 207, 119, 389, 390, 391, 392, 135, 393, 394, 136, 770, 771, 772, 773, 774, 775, 776, 790, 791, 792, 793, 794, 795, 796, 797, 815, 816, 817, 818, 819, 820, 821, 822, 823, 813, 814] (by decide +kernel) (by decide +kernel)
set_option maxRecDepth 20000 in
theorem gL_law_X7_wouldGet : GoodIn wsL_law (wsV RL 106 RX7 yX7_wouldGet wsX7_wouldGet) := goodIn_app (goodIn_of _ (by decide +kernel)) ggL_law_X7_wouldGet
set_option maxRecDepth 20000 in
theorem ggL_law_X8_wouldGet : GoodIn wsL_law wsX8_wouldGet := goodIn_r _ [708, 191, 192, 193, 5, 194, 85, 146, 147, 148, 343, 344, 345, 346, 347, 348, 349, 350, 195, 196, 197, 198, 399, 400, 401, 402, 403, 404, 405, 406, 407, 408, 409, 410, 415, 416, 417, 418, 419, 420, 421, 422, 423, 424, 425, 426, 427, 428, 429, 430, 777, 778, 779, 780, 781, 782, 783, 784, 785, 786, 787, 788, 789] (by decide +kernel) (by decide +kernel)
set_option maxRecDepth 20000 in
theorem gL_law_X8_wouldGet : GoodIn wsL_law (wsV RL 109 RX8 yX8_wouldGet wsX8_wouldGet) := goodIn_app (goodIn_of _ (by decide +kernel)) ggL_law_X8_wouldGet
set_option maxRecDepth 20000 in
theorem ggL_law_X7_most : GoodIn wsL_law wsX7_most := goodIn_r _ [712, 33, 15, 713, 714, 715, 32, 716, 77, 78, 717, 718, 719, 720, 721, 79, 80, 722, 723, 724, 725, 385, 386, 14, 387, 39, 388, 205, 206, 207, 119, 389, 390, 391, 47, 392, 135, 393, 394, 136, 726, 727, 728, 729, 770, 771, 772, 773, 774, 775, 776, 809, 810, 811, 812, 790, 791, 792, 793, 794, 795, 796, 797, 815, 816, 817, 818, 819, 820, 821, 822, 823, 813, 814] (by decide +kernel) (by decide +kernel)
set_option maxRecDepth 20000 in
theorem gL_law_X7_most : GoodIn wsL_law (wsV RL 110 RX7 yX7_most wsX7_most) := goodIn_app (goodIn_of _ (by decide +kernel)) ggL_law_X7_most
set_option maxRecDepth 20000 in
theorem ggL_law_X8_most : GoodIn wsL_law wsX8_most := goodIn_r _ [733, 93, 85, 734, 735, 736, 5, 737, 195, 196, 197, 198, 419, 420, 421, 422, 423, 424, 425, 426, 427, 428, 429, 430, 738, 739, 740, 777, 778, 779, 780, 781, 782, 783, 784, 785, 786, 787, 788, 789] (by decide +kernel) (by decide +kernel)
set_option maxRecDepth 20000 in
theorem gL_law_X8_most : GoodIn wsL_law (wsV RL 113 RX8 yX8_most wsX8_most) := goodIn_app (goodIn_of _ (by decide +kernel)) ggL_law_X8_most
set_option maxRecDepth 20000 in
theorem ggL_law_X7_count : GoodIn wsL_law wsX7_count := goodIn_r _ [744, 15, 99, 160, 355, 29, 451, 441, 21, 597, 25, 576, 611, 612, 613, 14, 614, 120, 41, 360, 335, 336, 337, 338, 334, 745, 746, 747, 748, 470, 471, 472, 473, 474, 475, 476, 47, 477, 139, 236, 209, 210, 211, 134, 54, 384, 385, 386, 387, 39, 388, 205, 206, 207, 119, 389, 390, 391, 392, 135, 393, 394, 136, 374, 375, 376, 377, 137, 138, 502, 503, 504, 28, 505, 506, 507, 73, 508, 509, 510, 511, 512, 382, 383, 513, 514, 515, 516, 749, 750, 751, 752, 521, 522, 523, 524, 525, 526, 527, 528, 753, 754, 755, 756, 757, 770, 771, 772, 773, 774, 775, 776, 790, 791, 792, 793, 794, 795, 796, 797, 798, 799, 800, 801, 802, 803, 804, 805, 806, 815, 816, 817, 818, 819, 820, 821, 822, 823, 813, 814, 807, 808] (by decide +kernel) (by decide +kernel)
set_option maxRecDepth 20000 in
theorem gL_law_X7_count : GoodIn wsL_law (wsV RL 114 RX7 yX7_count wsX7_count) := goodIn_app (goodIn_of _ (by decide +kernel)) ggL_law_X7_count
set_option maxRecDepth 20000 in
theorem ggL_law_X8_count : GoodIn wsL_law wsX8_count := goodIn_r _ [761, 85, 94, 300, 620, 621, 622, 5, 623, 195, 196, 197, 198, 343, 344, 345, 346, 347, 348, 349, 350, 762, 763, 764, 765, 693, 694, 695, 696, 490, 491, 492, 493, 494, 495, 496, 497, 224, 225, 226, 227, 419, 420, 421, 422, 423, 424, 425, 426, 427, 428, 429, 430, 407, 408, 409, 410, 766, 767, 768, 769, 548, 549, 550, 551, 552, 553, 554, 555, 556, 557, 558, 559, 777, 778, 779, 780, 781, 782, 783, 784, 785, 786, 787, 788, 789] (by decide +kernel) (by decide +kernel)
set_option maxRecDepth 20000 in
theorem gL_law_X8_count : GoodIn wsL_law (wsV RL 117 RX8 yX8_count wsX8_count) := goodIn_app (goodIn_of _ (by decide +kernel)) ggL_law_X8_count
theorem dL_law_0 : decode cL_law 0 = .ok (.new 7, 3) := by decide +kernel
theorem dL_law_3 : decode cL_law 3 = .ok (.dup, 1) := by decide +kernel
theorem dL_law_4 : decode cL_law 4 = .ok (.invokespecial 9, 3) := by decide +kernel
theorem dL_law_7 : decode cL_law 7 = .ok (.astore_n 1, 1) := by decide +kernel
theorem dL_law_8 : decode cL_law 8 = .ok (.new 10, 3) := by decide +kernel
theorem dL_law_11 : decode cL_law 11 = .ok (.dup, 1) := by decide +kernel
theorem dL_law_12 : decode cL_law 12 = .ok (.invokespecial 12, 3) := by decide +kernel
theorem dL_law_15 : decode cL_law 15 = .ok (.astore_n 2, 1) := by decide +kernel
theorem dL_law_16 : decode cL_law 16 = .ok (.iconst 0, 1) := by decide +kernel
theorem dL_law_17 : decode cL_law 17 = .ok (.istore_n 3, 1) := by decide +kernel
theorem dL_law_18 : decode cL_law 18 = .ok (.iload_n 3, 1) := by decide +kernel
theorem dL_law_19 : decode cL_law 19 = .ok (.aload_n 0, 1) := by decide +kernel
theorem dL_law_20 : decode cL_law 20 = .ok (.arraylength, 1) := by decide +kernel
theorem dL_law_21 : decode cL_law 21 = .ok (.iconst 4, 1) := by decide +kernel
theorem dL_law_22 : decode cL_law 22 = .ok (.isub, 1) := by decide +kernel
theorem dL_law_23 : decode cL_law 23 = .ok (.if_icmp .gt 774, 3) := by decide +kernel
theorem dL_law_26 : decode cL_law 26 = .ok (.aload_n 0, 1) := by decide +kernel
theorem dL_law_27 : decode cL_law 27 = .ok (.iload_n 3, 1) := by decide +kernel
theorem dL_law_28 : decode cL_law 28 = .ok (.iaload, 1) := by decide +kernel
theorem dL_law_29 : decode cL_law 29 = .ok (.bipush 31, 2) := by decide +kernel
theorem dL_law_31 : decode cL_law 31 = .ok (.iand, 1) := by decide +kernel
theorem dL_law_32 : decode cL_law 32 = .ok (.tableswitch 759 0 24 #[116, 149, 182, 241, 274, 307, 320, 353, 366, 389, 422, 435, 458, 483, 496, 509, 522, 535, 568, 601, 634, 657, 690, 723, 736], 116) := by decide +kernel
theorem dL_law_148 : decode cL_law 148 = .ok (.aload_n 1, 1) := by decide +kernel
theorem dL_law_149 : decode cL_law 149 = .ok (.aload_n 0, 1) := by decide +kernel
theorem dL_law_150 : decode cL_law 150 = .ok (.iload_n 3, 1) := by decide +kernel
theorem dL_law_151 : decode cL_law 151 = .ok (.iconst 1, 1) := by decide +kernel
theorem dL_law_152 : decode cL_law 152 = .ok (.iadd, 1) := by decide +kernel
theorem dL_law_153 : decode cL_law 153 = .ok (.iaload, 1) := by decide +kernel
theorem dL_law_154 : decode cL_law 154 = .ok (.aload_n 0, 1) := by decide +kernel
theorem dL_law_155 : decode cL_law 155 = .ok (.iload_n 3, 1) := by decide +kernel
theorem dL_law_156 : decode cL_law 156 = .ok (.iconst 2, 1) := by decide +kernel
theorem dL_law_157 : decode cL_law 157 = .ok (.iadd, 1) := by decide +kernel
theorem dL_law_158 : decode cL_law 158 = .ok (.iaload, 1) := by decide +kernel
theorem dL_law_159 : decode cL_law 159 = .ok (.invokevirtual 13, 3) := by decide +kernel
theorem dL_law_162 : decode cL_law 162 = .ok (.aload_n 2, 1) := by decide +kernel
theorem dL_law_163 : decode cL_law 163 = .ok (.aload_n 0, 1) := by decide +kernel
theorem dL_law_164 : decode cL_law 164 = .ok (.iload_n 3, 1) := by decide +kernel
theorem dL_law_165 : decode cL_law 165 = .ok (.iconst 1, 1) := by decide +kernel
theorem dL_law_166 : decode cL_law 166 = .ok (.iadd, 1) := by decide +kernel
theorem dL_law_167 : decode cL_law 167 = .ok (.iaload, 1) := by decide +kernel
theorem dL_law_168 : decode cL_law 168 = .ok (.aload_n 0, 1) := by decide +kernel
theorem dL_law_169 : decode cL_law 169 = .ok (.iload_n 3, 1) := by decide +kernel
theorem dL_law_170 : decode cL_law 170 = .ok (.iconst 2, 1) := by decide +kernel
theorem dL_law_171 : decode cL_law 171 = .ok (.iadd, 1) := by decide +kernel
theorem dL_law_172 : decode cL_law 172 = .ok (.iaload, 1) := by decide +kernel
theorem dL_law_173 : decode cL_law 173 = .ok (.invokevirtual 17, 3) := by decide +kernel
theorem dL_law_176 : decode cL_law 176 = .ok (.if_icmp .eq 615, 3) := by decide +kernel
theorem dL_law_179 : decode cL_law 179 = .ok (.iconst 0, 1) := by decide +kernel
theorem dL_law_180 : decode cL_law 180 = .ok (.ireturn, 1) := by decide +kernel
theorem dL_law_181 : decode cL_law 181 = .ok (.aload_n 1, 1) := by decide +kernel
theorem dL_law_182 : decode cL_law 182 = .ok (.aload_n 0, 1) := by decide +kernel
theorem dL_law_183 : decode cL_law 183 = .ok (.iload_n 3, 1) := by decide +kernel
theorem dL_law_184 : decode cL_law 184 = .ok (.iconst 1, 1) := by decide +kernel
theorem dL_law_185 : decode cL_law 185 = .ok (.iadd, 1) := by decide +kernel
theorem dL_law_186 : decode cL_law 186 = .ok (.iaload, 1) := by decide +kernel
theorem dL_law_187 : decode cL_law 187 = .ok (.aload_n 0, 1) := by decide +kernel
theorem dL_law_188 : decode cL_law 188 = .ok (.iload_n 3, 1) := by decide +kernel
theorem dL_law_189 : decode cL_law 189 = .ok (.iconst 2, 1) := by decide +kernel
theorem dL_law_190 : decode cL_law 190 = .ok (.iadd, 1) := by decide +kernel
theorem dL_law_191 : decode cL_law 191 = .ok (.iaload, 1) := by decide +kernel
theorem dL_law_192 : decode cL_law 192 = .ok (.invokevirtual 18, 3) := by decide +kernel
theorem dL_law_195 : decode cL_law 195 = .ok (.aload_n 2, 1) := by decide +kernel
theorem dL_law_196 : decode cL_law 196 = .ok (.aload_n 0, 1) := by decide +kernel
theorem dL_law_197 : decode cL_law 197 = .ok (.iload_n 3, 1) := by decide +kernel
theorem dL_law_198 : decode cL_law 198 = .ok (.iconst 1, 1) := by decide +kernel
theorem dL_law_199 : decode cL_law 199 = .ok (.iadd, 1) := by decide +kernel
theorem dL_law_200 : decode cL_law 200 = .ok (.iaload, 1) := by decide +kernel
theorem dL_law_201 : decode cL_law 201 = .ok (.aload_n 0, 1) := by decide +kernel
theorem dL_law_202 : decode cL_law 202 = .ok (.iload_n 3, 1) := by decide +kernel
theorem dL_law_203 : decode cL_law 203 = .ok (.iconst 2, 1) := by decide +kernel
theorem dL_law_204 : decode cL_law 204 = .ok (.iadd, 1) := by decide +kernel
theorem dL_law_205 : decode cL_law 205 = .ok (.iaload, 1) := by decide +kernel
theorem dL_law_206 : decode cL_law 206 = .ok (.invokevirtual 21, 3) := by decide +kernel
theorem dL_law_209 : decode cL_law 209 = .ok (.if_icmp .eq 582, 3) := by decide +kernel
theorem dL_law_212 : decode cL_law 212 = .ok (.iconst 0, 1) := by decide +kernel
theorem dL_law_213 : decode cL_law 213 = .ok (.ireturn, 1) := by decide +kernel
theorem dL_law_214 : decode cL_law 214 = .ok (.aload_n 1, 1) := by decide +kernel
theorem dL_law_215 : decode cL_law 215 = .ok (.aload_n 0, 1) := by decide +kernel
theorem dL_law_216 : decode cL_law 216 = .ok (.iload_n 3, 1) := by decide +kernel
theorem dL_law_217 : decode cL_law 217 = .ok (.iconst 1, 1) := by decide +kernel
theorem dL_law_218 : decode cL_law 218 = .ok (.iadd, 1) := by decide +kernel
theorem dL_law_219 : decode cL_law 219 = .ok (.iaload, 1) := by decide +kernel
theorem dL_law_220 : decode cL_law 220 = .ok (.aload_n 0, 1) := by decide +kernel
theorem dL_law_221 : decode cL_law 221 = .ok (.iload_n 3, 1) := by decide +kernel
theorem dL_law_222 : decode cL_law 222 = .ok (.iconst 2, 1) := by decide +kernel
theorem dL_law_223 : decode cL_law 223 = .ok (.iadd, 1) := by decide +kernel
theorem dL_law_224 : decode cL_law 224 = .ok (.iaload, 1) := by decide +kernel
theorem dL_law_225 : decode cL_law 225 = .ok (.ifCond .eq 7, 3) := by decide +kernel
theorem dL_law_228 : decode cL_law 228 = .ok (.iconst 1, 1) := by decide +kernel
theorem dL_law_229 : decode cL_law 229 = .ok (.goto 4, 3) := by decide +kernel
theorem dL_law_232 : decode cL_law 232 = .ok (.iconst 0, 1) := by decide +kernel
theorem dL_law_233 : decode cL_law 233 = .ok (.aload_n 0, 1) := by decide +kernel
theorem dL_law_234 : decode cL_law 234 = .ok (.iload_n 3, 1) := by decide +kernel
theorem dL_law_235 : decode cL_law 235 = .ok (.iconst 3, 1) := by decide +kernel
theorem dL_law_236 : decode cL_law 236 = .ok (.iadd, 1) := by decide +kernel
theorem dL_law_237 : decode cL_law 237 = .ok (.iaload, 1) := by decide +kernel
theorem dL_law_238 : decode cL_law 238 = .ok (.invokevirtual 22, 3) := by decide +kernel
theorem dL_law_241 : decode cL_law 241 = .ok (.aload_n 2, 1) := by decide +kernel
theorem dL_law_242 : decode cL_law 242 = .ok (.aload_n 0, 1) := by decide +kernel
theorem dL_law_243 : decode cL_law 243 = .ok (.iload_n 3, 1) := by decide +kernel
theorem dL_law_244 : decode cL_law 244 = .ok (.iconst 1, 1) := by decide +kernel
theorem dL_law_245 : decode cL_law 245 = .ok (.iadd, 1) := by decide +kernel
theorem dL_law_246 : decode cL_law 246 = .ok (.iaload, 1) := by decide +kernel
theorem dL_law_247 : decode cL_law 247 = .ok (.aload_n 0, 1) := by decide +kernel
theorem dL_law_248 : decode cL_law 248 = .ok (.iload_n 3, 1) := by decide +kernel
theorem dL_law_249 : decode cL_law 249 = .ok (.iconst 2, 1) := by decide +kernel
theorem dL_law_250 : decode cL_law 250 = .ok (.iadd, 1) := by decide +kernel
theorem dL_law_251 : decode cL_law 251 = .ok (.iaload, 1) := by decide +kernel
theorem dL_law_252 : decode cL_law 252 = .ok (.ifCond .eq 7, 3) := by decide +kernel
theorem dL_law_255 : decode cL_law 255 = .ok (.iconst 1, 1) := by decide +kernel
theorem dL_law_256 : decode cL_law 256 = .ok (.goto 4, 3) := by decide +kernel
theorem dL_law_259 : decode cL_law 259 = .ok (.iconst 0, 1) := by decide +kernel
theorem dL_law_260 : decode cL_law 260 = .ok (.aload_n 0, 1) := by decide +kernel
theorem dL_law_261 : decode cL_law 261 = .ok (.iload_n 3, 1) := by decide +kernel
theorem dL_law_262 : decode cL_law 262 = .ok (.iconst 3, 1) := by decide +kernel
theorem dL_law_263 : decode cL_law 263 = .ok (.iadd, 1) := by decide +kernel
theorem dL_law_264 : decode cL_law 264 = .ok (.iaload, 1) := by decide +kernel
theorem dL_law_265 : decode cL_law 265 = .ok (.invokevirtual 26, 3) := by decide +kernel
theorem dL_law_268 : decode cL_law 268 = .ok (.if_icmp .eq 523, 3) := by decide +kernel
theorem dL_law_271 : decode cL_law 271 = .ok (.iconst 0, 1) := by decide +kernel
theorem dL_law_272 : decode cL_law 272 = .ok (.ireturn, 1) := by decide +kernel
theorem dL_law_273 : decode cL_law 273 = .ok (.aload_n 1, 1) := by decide +kernel
theorem dL_law_274 : decode cL_law 274 = .ok (.aload_n 0, 1) := by decide +kernel
theorem dL_law_275 : decode cL_law 275 = .ok (.iload_n 3, 1) := by decide +kernel
theorem dL_law_276 : decode cL_law 276 = .ok (.iconst 1, 1) := by decide +kernel
theorem dL_law_277 : decode cL_law 277 = .ok (.iadd, 1) := by decide +kernel
theorem dL_law_278 : decode cL_law 278 = .ok (.iaload, 1) := by decide +kernel
theorem dL_law_279 : decode cL_law 279 = .ok (.aload_n 0, 1) := by decide +kernel
theorem dL_law_280 : decode cL_law 280 = .ok (.iload_n 3, 1) := by decide +kernel
theorem dL_law_281 : decode cL_law 281 = .ok (.iconst 2, 1) := by decide +kernel
theorem dL_law_282 : decode cL_law 282 = .ok (.iadd, 1) := by decide +kernel
theorem dL_law_283 : decode cL_law 283 = .ok (.iaload, 1) := by decide +kernel
theorem dL_law_284 : decode cL_law 284 = .ok (.invokevirtual 27, 3) := by decide +kernel
theorem dL_law_287 : decode cL_law 287 = .ok (.aload_n 2, 1) := by decide +kernel
theorem dL_law_288 : decode cL_law 288 = .ok (.aload_n 0, 1) := by decide +kernel
theorem dL_law_289 : decode cL_law 289 = .ok (.iload_n 3, 1) := by decide +kernel
theorem dL_law_290 : decode cL_law 290 = .ok (.iconst 1, 1) := by decide +kernel
theorem dL_law_291 : decode cL_law 291 = .ok (.iadd, 1) := by decide +kernel
theorem dL_law_292 : decode cL_law 292 = .ok (.iaload, 1) := by decide +kernel
theorem dL_law_293 : decode cL_law 293 = .ok (.aload_n 0, 1) := by decide +kernel
theorem dL_law_294 : decode cL_law 294 = .ok (.iload_n 3, 1) := by decide +kernel
theorem dL_law_295 : decode cL_law 295 = .ok (.iconst 2, 1) := by decide +kernel
theorem dL_law_296 : decode cL_law 296 = .ok (.iadd, 1) := by decide +kernel
theorem dL_law_297 : decode cL_law 297 = .ok (.iaload, 1) := by decide +kernel
theorem dL_law_298 : decode cL_law 298 = .ok (.invokevirtual 30, 3) := by decide +kernel
theorem dL_law_301 : decode cL_law 301 = .ok (.if_icmp .eq 490, 3) := by decide +kernel
theorem dL_law_304 : decode cL_law 304 = .ok (.iconst 0, 1) := by decide +kernel
theorem dL_law_305 : decode cL_law 305 = .ok (.ireturn, 1) := by decide +kernel
theorem dL_law_306 : decode cL_law 306 = .ok (.aload_n 1, 1) := by decide +kernel
theorem dL_law_307 : decode cL_law 307 = .ok (.aload_n 0, 1) := by decide +kernel
theorem dL_law_308 : decode cL_law 308 = .ok (.iload_n 3, 1) := by decide +kernel
theorem dL_law_309 : decode cL_law 309 = .ok (.iconst 1, 1) := by decide +kernel
theorem dL_law_310 : decode cL_law 310 = .ok (.iadd, 1) := by decide +kernel
theorem dL_law_311 : decode cL_law 311 = .ok (.iaload, 1) := by decide +kernel
theorem dL_law_312 : decode cL_law 312 = .ok (.aload_n 0, 1) := by decide +kernel
theorem dL_law_313 : decode cL_law 313 = .ok (.iload_n 3, 1) := by decide +kernel
theorem dL_law_314 : decode cL_law 314 = .ok (.iconst 2, 1) := by decide +kernel
theorem dL_law_315 : decode cL_law 315 = .ok (.iadd, 1) := by decide +kernel
theorem dL_law_316 : decode cL_law 316 = .ok (.iaload, 1) := by decide +kernel
theorem dL_law_317 : decode cL_law 317 = .ok (.invokevirtual 31, 3) := by decide +kernel
theorem dL_law_320 : decode cL_law 320 = .ok (.aload_n 2, 1) := by decide +kernel
theorem dL_law_321 : decode cL_law 321 = .ok (.aload_n 0, 1) := by decide +kernel
theorem dL_law_322 : decode cL_law 322 = .ok (.iload_n 3, 1) := by decide +kernel
theorem dL_law_323 : decode cL_law 323 = .ok (.iconst 1, 1) := by decide +kernel
theorem dL_law_324 : decode cL_law 324 = .ok (.iadd, 1) := by decide +kernel
theorem dL_law_325 : decode cL_law 325 = .ok (.iaload, 1) := by decide +kernel
theorem dL_law_326 : decode cL_law 326 = .ok (.aload_n 0, 1) := by decide +kernel
theorem dL_law_327 : decode cL_law 327 = .ok (.iload_n 3, 1) := by decide +kernel
theorem dL_law_328 : decode cL_law 328 = .ok (.iconst 2, 1) := by decide +kernel
theorem dL_law_329 : decode cL_law 329 = .ok (.iadd, 1) := by decide +kernel
theorem dL_law_330 : decode cL_law 330 = .ok (.iaload, 1) := by decide +kernel
theorem dL_law_331 : decode cL_law 331 = .ok (.invokevirtual 34, 3) := by decide +kernel
theorem dL_law_334 : decode cL_law 334 = .ok (.if_icmp .eq 457, 3) := by decide +kernel
theorem dL_law_337 : decode cL_law 337 = .ok (.iconst 0, 1) := by decide +kernel
theorem dL_law_338 : decode cL_law 338 = .ok (.ireturn, 1) := by decide +kernel
theorem dL_law_339 : decode cL_law 339 = .ok (.aload_n 1, 1) := by decide +kernel
theorem dL_law_340 : decode cL_law 340 = .ok (.invokevirtual 35, 3) := by decide +kernel
theorem dL_law_343 : decode cL_law 343 = .ok (.aload_n 2, 1) := by decide +kernel
theorem dL_law_344 : decode cL_law 344 = .ok (.invokevirtual 39, 3) := by decide +kernel
theorem dL_law_347 : decode cL_law 347 = .ok (.if_icmp .eq 444, 3) := by decide +kernel
theorem dL_law_350 : decode cL_law 350 = .ok (.iconst 0, 1) := by decide +kernel
theorem dL_law_351 : decode cL_law 351 = .ok (.ireturn, 1) := by decide +kernel
theorem dL_law_352 : decode cL_law 352 = .ok (.aload_n 1, 1) := by decide +kernel
theorem dL_law_353 : decode cL_law 353 = .ok (.aload_n 0, 1) := by decide +kernel
theorem dL_law_354 : decode cL_law 354 = .ok (.iload_n 3, 1) := by decide +kernel
theorem dL_law_355 : decode cL_law 355 = .ok (.iconst 1, 1) := by decide +kernel
theorem dL_law_356 : decode cL_law 356 = .ok (.iadd, 1) := by decide +kernel
theorem dL_law_357 : decode cL_law 357 = .ok (.iaload, 1) := by decide +kernel
theorem dL_law_358 : decode cL_law 358 = .ok (.aload_n 0, 1) := by decide +kernel
theorem dL_law_359 : decode cL_law 359 = .ok (.iload_n 3, 1) := by decide +kernel
theorem dL_law_360 : decode cL_law 360 = .ok (.iconst 2, 1) := by decide +kernel
theorem dL_law_361 : decode cL_law 361 = .ok (.iadd, 1) := by decide +kernel
theorem dL_law_362 : decode cL_law 362 = .ok (.iaload, 1) := by decide +kernel
theorem dL_law_363 : decode cL_law 363 = .ok (.invokevirtual 40, 3) := by decide +kernel
theorem dL_law_366 : decode cL_law 366 = .ok (.aload_n 2, 1) := by decide +kernel
theorem dL_law_367 : decode cL_law 367 = .ok (.aload_n 0, 1) := by decide +kernel
theorem dL_law_368 : decode cL_law 368 = .ok (.iload_n 3, 1) := by decide +kernel
theorem dL_law_369 : decode cL_law 369 = .ok (.iconst 1, 1) := by decide +kernel
theorem dL_law_370 : decode cL_law 370 = .ok (.iadd, 1) := by decide +kernel
theorem dL_law_371 : decode cL_law 371 = .ok (.iaload, 1) := by decide +kernel
theorem dL_law_372 : decode cL_law 372 = .ok (.aload_n 0, 1) := by decide +kernel
theorem dL_law_373 : decode cL_law 373 = .ok (.iload_n 3, 1) := by decide +kernel
theorem dL_law_374 : decode cL_law 374 = .ok (.iconst 2, 1) := by decide +kernel
theorem dL_law_375 : decode cL_law 375 = .ok (.iadd, 1) := by decide +kernel
theorem dL_law_376 : decode cL_law 376 = .ok (.iaload, 1) := by decide +kernel
theorem dL_law_377 : decode cL_law 377 = .ok (.invokevirtual 43, 3) := by decide +kernel
theorem dL_law_380 : decode cL_law 380 = .ok (.if_icmp .eq 411, 3) := by decide +kernel
theorem dL_law_383 : decode cL_law 383 = .ok (.iconst 0, 1) := by decide +kernel
theorem dL_law_384 : decode cL_law 384 = .ok (.ireturn, 1) := by decide +kernel
theorem dL_law_385 : decode cL_law 385 = .ok (.aload_n 1, 1) := by decide +kernel
theorem dL_law_386 : decode cL_law 386 = .ok (.invokevirtual 44, 3) := by decide +kernel
theorem dL_law_389 : decode cL_law 389 = .ok (.aload_n 2, 1) := by decide +kernel
theorem dL_law_390 : decode cL_law 390 = .ok (.invokevirtual 47, 3) := by decide +kernel
theorem dL_law_393 : decode cL_law 393 = .ok (.if_icmp .eq 398, 3) := by decide +kernel
theorem dL_law_396 : decode cL_law 396 = .ok (.iconst 0, 1) := by decide +kernel
theorem dL_law_397 : decode cL_law 397 = .ok (.ireturn, 1) := by decide +kernel
theorem dL_law_398 : decode cL_law 398 = .ok (.aload_n 1, 1) := by decide +kernel
theorem dL_law_399 : decode cL_law 399 = .ok (.aload_n 0, 1) := by decide +kernel
theorem dL_law_400 : decode cL_law 400 = .ok (.iload_n 3, 1) := by decide +kernel
theorem dL_law_401 : decode cL_law 401 = .ok (.iconst 1, 1) := by decide +kernel
theorem dL_law_402 : decode cL_law 402 = .ok (.iadd, 1) := by decide +kernel
theorem dL_law_403 : decode cL_law 403 = .ok (.iaload, 1) := by decide +kernel
theorem dL_law_404 : decode cL_law 404 = .ok (.invokevirtual 48, 3) := by decide +kernel
theorem dL_law_407 : decode cL_law 407 = .ok (.aload_n 2, 1) := by decide +kernel
theorem dL_law_408 : decode cL_law 408 = .ok (.aload_n 0, 1) := by decide +kernel
theorem dL_law_409 : decode cL_law 409 = .ok (.iload_n 3, 1) := by decide +kernel
theorem dL_law_410 : decode cL_law 410 = .ok (.iconst 1, 1) := by decide +kernel
theorem dL_law_411 : decode cL_law 411 = .ok (.iadd, 1) := by decide +kernel
theorem dL_law_412 : decode cL_law 412 = .ok (.iaload, 1) := by decide +kernel
theorem dL_law_413 : decode cL_law 413 = .ok (.invokevirtual 52, 3) := by decide +kernel
theorem dL_law_416 : decode cL_law 416 = .ok (.if_icmp .eq 375, 3) := by decide +kernel
theorem dL_law_419 : decode cL_law 419 = .ok (.iconst 0, 1) := by decide +kernel
theorem dL_law_420 : decode cL_law 420 = .ok (.ireturn, 1) := by decide +kernel
theorem dL_law_421 : decode cL_law 421 = .ok (.aload_n 1, 1) := by decide +kernel
theorem dL_law_422 : decode cL_law 422 = .ok (.aload_n 0, 1) := by decide +kernel
theorem dL_law_423 : decode cL_law 423 = .ok (.iload_n 3, 1) := by decide +kernel
theorem dL_law_424 : decode cL_law 424 = .ok (.iconst 1, 1) := by decide +kernel
theorem dL_law_425 : decode cL_law 425 = .ok (.iadd, 1) := by decide +kernel
theorem dL_law_426 : decode cL_law 426 = .ok (.iaload, 1) := by decide +kernel
theorem dL_law_427 : decode cL_law 427 = .ok (.aload_n 0, 1) := by decide +kernel
theorem dL_law_428 : decode cL_law 428 = .ok (.iload_n 3, 1) := by decide +kernel
theorem dL_law_429 : decode cL_law 429 = .ok (.iconst 2, 1) := by decide +kernel
theorem dL_law_430 : decode cL_law 430 = .ok (.iadd, 1) := by decide +kernel
theorem dL_law_431 : decode cL_law 431 = .ok (.iaload, 1) := by decide +kernel
theorem dL_law_432 : decode cL_law 432 = .ok (.invokevirtual 53, 3) := by decide +kernel
theorem dL_law_435 : decode cL_law 435 = .ok (.aload_n 2, 1) := by decide +kernel
theorem dL_law_436 : decode cL_law 436 = .ok (.aload_n 0, 1) := by decide +kernel
theorem dL_law_437 : decode cL_law 437 = .ok (.iload_n 3, 1) := by decide +kernel
theorem dL_law_438 : decode cL_law 438 = .ok (.iconst 1, 1) := by decide +kernel
theorem dL_law_439 : decode cL_law 439 = .ok (.iadd, 1) := by decide +kernel
theorem dL_law_440 : decode cL_law 440 = .ok (.iaload, 1) := by decide +kernel
theorem dL_law_441 : decode cL_law 441 = .ok (.aload_n 0, 1) := by decide +kernel
theorem dL_law_442 : decode cL_law 442 = .ok (.iload_n 3, 1) := by decide +kernel
theorem dL_law_443 : decode cL_law 443 = .ok (.iconst 2, 1) := by decide +kernel
theorem dL_law_444 : decode cL_law 444 = .ok (.iadd, 1) := by decide +kernel
theorem dL_law_445 : decode cL_law 445 = .ok (.iaload, 1) := by decide +kernel
theorem dL_law_446 : decode cL_law 446 = .ok (.invokevirtual 56, 3) := by decide +kernel
theorem dL_law_449 : decode cL_law 449 = .ok (.if_icmp .eq 342, 3) := by decide +kernel
theorem dL_law_452 : decode cL_law 452 = .ok (.iconst 0, 1) := by decide +kernel
theorem dL_law_453 : decode cL_law 453 = .ok (.ireturn, 1) := by decide +kernel
theorem dL_law_454 : decode cL_law 454 = .ok (.aload_n 1, 1) := by decide +kernel
theorem dL_law_455 : decode cL_law 455 = .ok (.invokevirtual 57, 3) := by decide +kernel
theorem dL_law_458 : decode cL_law 458 = .ok (.aload_n 2, 1) := by decide +kernel
theorem dL_law_459 : decode cL_law 459 = .ok (.invokevirtual 60, 3) := by decide +kernel
theorem dL_law_462 : decode cL_law 462 = .ok (.if_icmp .eq 329, 3) := by decide +kernel
theorem dL_law_465 : decode cL_law 465 = .ok (.iconst 0, 1) := by decide +kernel
theorem dL_law_466 : decode cL_law 466 = .ok (.ireturn, 1) := by decide +kernel
theorem dL_law_467 : decode cL_law 467 = .ok (.aload_n 1, 1) := by decide +kernel
theorem dL_law_468 : decode cL_law 468 = .ok (.aload_n 0, 1) := by decide +kernel
theorem dL_law_469 : decode cL_law 469 = .ok (.iload_n 3, 1) := by decide +kernel
theorem dL_law_470 : decode cL_law 470 = .ok (.iconst 1, 1) := by decide +kernel
theorem dL_law_471 : decode cL_law 471 = .ok (.iadd, 1) := by decide +kernel
theorem dL_law_472 : decode cL_law 472 = .ok (.iaload, 1) := by decide +kernel
theorem dL_law_473 : decode cL_law 473 = .ok (.invokevirtual 61, 3) := by decide +kernel
theorem dL_law_476 : decode cL_law 476 = .ok (.aload_n 2, 1) := by decide +kernel
theorem dL_law_477 : decode cL_law 477 = .ok (.aload_n 0, 1) := by decide +kernel
theorem dL_law_478 : decode cL_law 478 = .ok (.iload_n 3, 1) := by decide +kernel
theorem dL_law_479 : decode cL_law 479 = .ok (.iconst 1, 1) := by decide +kernel
theorem dL_law_480 : decode cL_law 480 = .ok (.iadd, 1) := by decide +kernel
theorem dL_law_481 : decode cL_law 481 = .ok (.iaload, 1) := by decide +kernel
theorem dL_law_482 : decode cL_law 482 = .ok (.invokevirtual 64, 3) := by decide +kernel
theorem dL_law_485 : decode cL_law 485 = .ok (.if_icmp .eq 306, 3) := by decide +kernel
theorem dL_law_488 : decode cL_law 488 = .ok (.iconst 0, 1) := by decide +kernel
theorem dL_law_489 : decode cL_law 489 = .ok (.ireturn, 1) := by decide +kernel
theorem dL_law_490 : decode cL_law 490 = .ok (.aload_n 1, 1) := by decide +kernel
theorem dL_law_491 : decode cL_law 491 = .ok (.aload_n 0, 1) := by decide +kernel
theorem dL_law_492 : decode cL_law 492 = .ok (.iload_n 3, 1) := by decide +kernel
theorem dL_law_493 : decode cL_law 493 = .ok (.iconst 1, 1) := by decide +kernel
theorem dL_law_494 : decode cL_law 494 = .ok (.iadd, 1) := by decide +kernel
theorem dL_law_495 : decode cL_law 495 = .ok (.iaload, 1) := by decide +kernel
theorem dL_law_496 : decode cL_law 496 = .ok (.i2c, 1) := by decide +kernel
theorem dL_law_497 : decode cL_law 497 = .ok (.invokevirtual 65, 3) := by decide +kernel
theorem dL_law_500 : decode cL_law 500 = .ok (.aload_n 2, 1) := by decide +kernel
theorem dL_law_501 : decode cL_law 501 = .ok (.aload_n 0, 1) := by decide +kernel
theorem dL_law_502 : decode cL_law 502 = .ok (.iload_n 3, 1) := by decide +kernel
theorem dL_law_503 : decode cL_law 503 = .ok (.iconst 1, 1) := by decide +kernel
theorem dL_law_504 : decode cL_law 504 = .ok (.iadd, 1) := by decide +kernel
theorem dL_law_505 : decode cL_law 505 = .ok (.iaload, 1) := by decide +kernel
theorem dL_law_506 : decode cL_law 506 = .ok (.i2c, 1) := by decide +kernel
theorem dL_law_507 : decode cL_law 507 = .ok (.invokevirtual 69, 3) := by decide +kernel
theorem dL_law_510 : decode cL_law 510 = .ok (.if_icmp .eq 281, 3) := by decide +kernel
theorem dL_law_513 : decode cL_law 513 = .ok (.iconst 0, 1) := by decide +kernel
theorem dL_law_514 : decode cL_law 514 = .ok (.ireturn, 1) := by decide +kernel
theorem dL_law_515 : decode cL_law 515 = .ok (.aload_n 1, 1) := by decide +kernel
theorem dL_law_516 : decode cL_law 516 = .ok (.invokevirtual 70, 3) := by decide +kernel
theorem dL_law_519 : decode cL_law 519 = .ok (.aload_n 2, 1) := by decide +kernel
theorem dL_law_520 : decode cL_law 520 = .ok (.invokevirtual 73, 3) := by decide +kernel
theorem dL_law_523 : decode cL_law 523 = .ok (.if_icmp .eq 268, 3) := by decide +kernel
theorem dL_law_526 : decode cL_law 526 = .ok (.iconst 0, 1) := by decide +kernel
theorem dL_law_527 : decode cL_law 527 = .ok (.ireturn, 1) := by decide +kernel
theorem dL_law_528 : decode cL_law 528 = .ok (.aload_n 1, 1) := by decide +kernel
theorem dL_law_529 : decode cL_law 529 = .ok (.invokevirtual 74, 3) := by decide +kernel
theorem dL_law_532 : decode cL_law 532 = .ok (.aload_n 2, 1) := by decide +kernel
theorem dL_law_533 : decode cL_law 533 = .ok (.invokevirtual 77, 3) := by decide +kernel
theorem dL_law_536 : decode cL_law 536 = .ok (.if_icmp .eq 255, 3) := by decide +kernel
theorem dL_law_539 : decode cL_law 539 = .ok (.iconst 0, 1) := by decide +kernel
theorem dL_law_540 : decode cL_law 540 = .ok (.ireturn, 1) := by decide +kernel
theorem dL_law_541 : decode cL_law 541 = .ok (.aload_n 1, 1) := by decide +kernel
theorem dL_law_542 : decode cL_law 542 = .ok (.invokevirtual 78, 3) := by decide +kernel
theorem dL_law_545 : decode cL_law 545 = .ok (.aload_n 2, 1) := by decide +kernel
theorem dL_law_546 : decode cL_law 546 = .ok (.invokevirtual 81, 3) := by decide +kernel
theorem dL_law_549 : decode cL_law 549 = .ok (.if_icmp .eq 242, 3) := by decide +kernel
theorem dL_law_552 : decode cL_law 552 = .ok (.iconst 0, 1) := by decide +kernel
theorem dL_law_553 : decode cL_law 553 = .ok (.ireturn, 1) := by decide +kernel
theorem dL_law_554 : decode cL_law 554 = .ok (.aload_n 1, 1) := by decide +kernel
theorem dL_law_555 : decode cL_law 555 = .ok (.invokevirtual 82, 3) := by decide +kernel
theorem dL_law_558 : decode cL_law 558 = .ok (.aload_n 2, 1) := by decide +kernel
theorem dL_law_559 : decode cL_law 559 = .ok (.invokevirtual 85, 3) := by decide +kernel
theorem dL_law_562 : decode cL_law 562 = .ok (.if_icmp .eq 229, 3) := by decide +kernel
theorem dL_law_565 : decode cL_law 565 = .ok (.iconst 0, 1) := by decide +kernel
theorem dL_law_566 : decode cL_law 566 = .ok (.ireturn, 1) := by decide +kernel
theorem dL_law_567 : decode cL_law 567 = .ok (.aload_n 1, 1) := by decide +kernel
theorem dL_law_568 : decode cL_law 568 = .ok (.aload_n 0, 1) := by decide +kernel
theorem dL_law_569 : decode cL_law 569 = .ok (.iload_n 3, 1) := by decide +kernel
theorem dL_law_570 : decode cL_law 570 = .ok (.iconst 1, 1) := by decide +kernel
theorem dL_law_571 : decode cL_law 571 = .ok (.iadd, 1) := by decide +kernel
theorem dL_law_572 : decode cL_law 572 = .ok (.iaload, 1) := by decide +kernel
theorem dL_law_573 : decode cL_law 573 = .ok (.aload_n 0, 1) := by decide +kernel
theorem dL_law_574 : decode cL_law 574 = .ok (.iload_n 3, 1) := by decide +kernel
theorem dL_law_575 : decode cL_law 575 = .ok (.iconst 2, 1) := by decide +kernel
theorem dL_law_576 : decode cL_law 576 = .ok (.iadd, 1) := by decide +kernel
theorem dL_law_577 : decode cL_law 577 = .ok (.iaload, 1) := by decide +kernel
theorem dL_law_578 : decode cL_law 578 = .ok (.invokevirtual 86, 3) := by decide +kernel
theorem dL_law_581 : decode cL_law 581 = .ok (.aload_n 2, 1) := by decide +kernel
theorem dL_law_582 : decode cL_law 582 = .ok (.aload_n 0, 1) := by decide +kernel
theorem dL_law_583 : decode cL_law 583 = .ok (.iload_n 3, 1) := by decide +kernel
theorem dL_law_584 : decode cL_law 584 = .ok (.iconst 1, 1) := by decide +kernel
theorem dL_law_585 : decode cL_law 585 = .ok (.iadd, 1) := by decide +kernel
theorem dL_law_586 : decode cL_law 586 = .ok (.iaload, 1) := by decide +kernel
theorem dL_law_587 : decode cL_law 587 = .ok (.aload_n 0, 1) := by decide +kernel
theorem dL_law_588 : decode cL_law 588 = .ok (.iload_n 3, 1) := by decide +kernel
theorem dL_law_589 : decode cL_law 589 = .ok (.iconst 2, 1) := by decide +kernel
theorem dL_law_590 : decode cL_law 590 = .ok (.iadd, 1) := by decide +kernel
theorem dL_law_591 : decode cL_law 591 = .ok (.iaload, 1) := by decide +kernel
theorem dL_law_592 : decode cL_law 592 = .ok (.invokevirtual 89, 3) := by decide +kernel
theorem dL_law_595 : decode cL_law 595 = .ok (.if_icmp .eq 196, 3) := by decide +kernel
theorem dL_law_598 : decode cL_law 598 = .ok (.iconst 0, 1) := by decide +kernel
theorem dL_law_599 : decode cL_law 599 = .ok (.ireturn, 1) := by decide +kernel
theorem dL_law_600 : decode cL_law 600 = .ok (.aload_n 1, 1) := by decide +kernel
theorem dL_law_601 : decode cL_law 601 = .ok (.aload_n 0, 1) := by decide +kernel
theorem dL_law_602 : decode cL_law 602 = .ok (.iload_n 3, 1) := by decide +kernel
theorem dL_law_603 : decode cL_law 603 = .ok (.iconst 1, 1) := by decide +kernel
theorem dL_law_604 : decode cL_law 604 = .ok (.iadd, 1) := by decide +kernel
theorem dL_law_605 : decode cL_law 605 = .ok (.iaload, 1) := by decide +kernel
theorem dL_law_606 : decode cL_law 606 = .ok (.aload_n 0, 1) := by decide +kernel
theorem dL_law_607 : decode cL_law 607 = .ok (.iload_n 3, 1) := by decide +kernel
theorem dL_law_608 : decode cL_law 608 = .ok (.iconst 2, 1) := by decide +kernel
theorem dL_law_609 : decode cL_law 609 = .ok (.iadd, 1) := by decide +kernel
theorem dL_law_610 : decode cL_law 610 = .ok (.iaload, 1) := by decide +kernel
theorem dL_law_611 : decode cL_law 611 = .ok (.invokevirtual 90, 3) := by decide +kernel
theorem dL_law_614 : decode cL_law 614 = .ok (.aload_n 2, 1) := by decide +kernel
theorem dL_law_615 : decode cL_law 615 = .ok (.aload_n 0, 1) := by decide +kernel
theorem dL_law_616 : decode cL_law 616 = .ok (.iload_n 3, 1) := by decide +kernel
theorem dL_law_617 : decode cL_law 617 = .ok (.iconst 1, 1) := by decide +kernel
theorem dL_law_618 : decode cL_law 618 = .ok (.iadd, 1) := by decide +kernel
theorem dL_law_619 : decode cL_law 619 = .ok (.iaload, 1) := by decide +kernel
theorem dL_law_620 : decode cL_law 620 = .ok (.aload_n 0, 1) := by decide +kernel
theorem dL_law_621 : decode cL_law 621 = .ok (.iload_n 3, 1) := by decide +kernel
theorem dL_law_622 : decode cL_law 622 = .ok (.iconst 2, 1) := by decide +kernel
theorem dL_law_623 : decode cL_law 623 = .ok (.iadd, 1) := by decide +kernel
theorem dL_law_624 : decode cL_law 624 = .ok (.iaload, 1) := by decide +kernel
theorem dL_law_625 : decode cL_law 625 = .ok (.invokevirtual 93, 3) := by decide +kernel
theorem dL_law_628 : decode cL_law 628 = .ok (.if_icmp .eq 163, 3) := by decide +kernel
theorem dL_law_631 : decode cL_law 631 = .ok (.iconst 0, 1) := by decide +kernel
theorem dL_law_632 : decode cL_law 632 = .ok (.ireturn, 1) := by decide +kernel
theorem dL_law_633 : decode cL_law 633 = .ok (.aload_n 1, 1) := by decide +kernel
theorem dL_law_634 : decode cL_law 634 = .ok (.aload_n 0, 1) := by decide +kernel
theorem dL_law_635 : decode cL_law 635 = .ok (.iload_n 3, 1) := by decide +kernel
theorem dL_law_636 : decode cL_law 636 = .ok (.iconst 1, 1) := by decide +kernel
theorem dL_law_637 : decode cL_law 637 = .ok (.iadd, 1) := by decide +kernel
theorem dL_law_638 : decode cL_law 638 = .ok (.iaload, 1) := by decide +kernel
theorem dL_law_639 : decode cL_law 639 = .ok (.aload_n 0, 1) := by decide +kernel
theorem dL_law_640 : decode cL_law 640 = .ok (.iload_n 3, 1) := by decide +kernel
theorem dL_law_641 : decode cL_law 641 = .ok (.iconst 2, 1) := by decide +kernel
theorem dL_law_642 : decode cL_law 642 = .ok (.iadd, 1) := by decide +kernel
theorem dL_law_643 : decode cL_law 643 = .ok (.iaload, 1) := by decide +kernel
theorem dL_law_644 : decode cL_law 644 = .ok (.invokevirtual 94, 3) := by decide +kernel
theorem dL_law_647 : decode cL_law 647 = .ok (.aload_n 2, 1) := by decide +kernel
theorem dL_law_648 : decode cL_law 648 = .ok (.aload_n 0, 1) := by decide +kernel
theorem dL_law_649 : decode cL_law 649 = .ok (.iload_n 3, 1) := by decide +kernel
theorem dL_law_650 : decode cL_law 650 = .ok (.iconst 1, 1) := by decide +kernel
theorem dL_law_651 : decode cL_law 651 = .ok (.iadd, 1) := by decide +kernel
theorem dL_law_652 : decode cL_law 652 = .ok (.iaload, 1) := by decide +kernel
theorem dL_law_653 : decode cL_law 653 = .ok (.aload_n 0, 1) := by decide +kernel
theorem dL_law_654 : decode cL_law 654 = .ok (.iload_n 3, 1) := by decide +kernel
theorem dL_law_655 : decode cL_law 655 = .ok (.iconst 2, 1) := by decide +kernel
theorem dL_law_656 : decode cL_law 656 = .ok (.iadd, 1) := by decide +kernel
theorem dL_law_657 : decode cL_law 657 = .ok (.iaload, 1) := by decide +kernel
theorem dL_law_658 : decode cL_law 658 = .ok (.invokevirtual 97, 3) := by decide +kernel
theorem dL_law_661 : decode cL_law 661 = .ok (.if_icmp .eq 130, 3) := by decide +kernel
theorem dL_law_664 : decode cL_law 664 = .ok (.iconst 0, 1) := by decide +kernel
theorem dL_law_665 : decode cL_law 665 = .ok (.ireturn, 1) := by decide +kernel
theorem dL_law_666 : decode cL_law 666 = .ok (.aload_n 1, 1) := by decide +kernel
theorem dL_law_667 : decode cL_law 667 = .ok (.aload_n 0, 1) := by decide +kernel
theorem dL_law_668 : decode cL_law 668 = .ok (.iload_n 3, 1) := by decide +kernel
theorem dL_law_669 : decode cL_law 669 = .ok (.iconst 1, 1) := by decide +kernel
theorem dL_law_670 : decode cL_law 670 = .ok (.iadd, 1) := by decide +kernel
theorem dL_law_671 : decode cL_law 671 = .ok (.iaload, 1) := by decide +kernel
theorem dL_law_672 : decode cL_law 672 = .ok (.invokevirtual 98, 3) := by decide +kernel
theorem dL_law_675 : decode cL_law 675 = .ok (.aload_n 2, 1) := by decide +kernel
theorem dL_law_676 : decode cL_law 676 = .ok (.aload_n 0, 1) := by decide +kernel
theorem dL_law_677 : decode cL_law 677 = .ok (.iload_n 3, 1) := by decide +kernel
theorem dL_law_678 : decode cL_law 678 = .ok (.iconst 1, 1) := by decide +kernel
theorem dL_law_679 : decode cL_law 679 = .ok (.iadd, 1) := by decide +kernel
theorem dL_law_680 : decode cL_law 680 = .ok (.iaload, 1) := by decide +kernel
theorem dL_law_681 : decode cL_law 681 = .ok (.invokevirtual 101, 3) := by decide +kernel
theorem dL_law_684 : decode cL_law 684 = .ok (.if_icmp .eq 107, 3) := by decide +kernel
theorem dL_law_687 : decode cL_law 687 = .ok (.iconst 0, 1) := by decide +kernel
theorem dL_law_688 : decode cL_law 688 = .ok (.ireturn, 1) := by decide +kernel
theorem dL_law_689 : decode cL_law 689 = .ok (.aload_n 1, 1) := by decide +kernel
theorem dL_law_690 : decode cL_law 690 = .ok (.aload_n 0, 1) := by decide +kernel
theorem dL_law_691 : decode cL_law 691 = .ok (.iload_n 3, 1) := by decide +kernel
theorem dL_law_692 : decode cL_law 692 = .ok (.iconst 1, 1) := by decide +kernel
theorem dL_law_693 : decode cL_law 693 = .ok (.iadd, 1) := by decide +kernel
theorem dL_law_694 : decode cL_law 694 = .ok (.iaload, 1) := by decide +kernel
theorem dL_law_695 : decode cL_law 695 = .ok (.aload_n 0, 1) := by decide +kernel
theorem dL_law_696 : decode cL_law 696 = .ok (.iload_n 3, 1) := by decide +kernel
theorem dL_law_697 : decode cL_law 697 = .ok (.iconst 2, 1) := by decide +kernel
theorem dL_law_698 : decode cL_law 698 = .ok (.iadd, 1) := by decide +kernel
theorem dL_law_699 : decode cL_law 699 = .ok (.iaload, 1) := by decide +kernel
theorem dL_law_700 : decode cL_law 700 = .ok (.invokevirtual 102, 3) := by decide +kernel
theorem dL_law_703 : decode cL_law 703 = .ok (.aload_n 2, 1) := by decide +kernel
theorem dL_law_704 : decode cL_law 704 = .ok (.aload_n 0, 1) := by decide +kernel
theorem dL_law_705 : decode cL_law 705 = .ok (.iload_n 3, 1) := by decide +kernel
theorem dL_law_706 : decode cL_law 706 = .ok (.iconst 1, 1) := by decide +kernel
theorem dL_law_707 : decode cL_law 707 = .ok (.iadd, 1) := by decide +kernel
theorem dL_law_708 : decode cL_law 708 = .ok (.iaload, 1) := by decide +kernel
theorem dL_law_709 : decode cL_law 709 = .ok (.aload_n 0, 1) := by decide +kernel
theorem dL_law_710 : decode cL_law 710 = .ok (.iload_n 3, 1) := by decide +kernel
theorem dL_law_711 : decode cL_law 711 = .ok (.iconst 2, 1) := by decide +kernel
theorem dL_law_712 : decode cL_law 712 = .ok (.iadd, 1) := by decide +kernel
theorem dL_law_713 : decode cL_law 713 = .ok (.iaload, 1) := by decide +kernel
theorem dL_law_714 : decode cL_law 714 = .ok (.invokevirtual 105, 3) := by decide +kernel
theorem dL_law_717 : decode cL_law 717 = .ok (.if_icmp .eq 74, 3) := by decide +kernel
theorem dL_law_720 : decode cL_law 720 = .ok (.iconst 0, 1) := by decide +kernel
theorem dL_law_721 : decode cL_law 721 = .ok (.ireturn, 1) := by decide +kernel
theorem dL_law_722 : decode cL_law 722 = .ok (.aload_n 1, 1) := by decide +kernel
theorem dL_law_723 : decode cL_law 723 = .ok (.aload_n 0, 1) := by decide +kernel
theorem dL_law_724 : decode cL_law 724 = .ok (.iload_n 3, 1) := by decide +kernel
theorem dL_law_725 : decode cL_law 725 = .ok (.iconst 1, 1) := by decide +kernel
theorem dL_law_726 : decode cL_law 726 = .ok (.iadd, 1) := by decide +kernel
theorem dL_law_727 : decode cL_law 727 = .ok (.iaload, 1) := by decide +kernel
theorem dL_law_728 : decode cL_law 728 = .ok (.aload_n 0, 1) := by decide +kernel
theorem dL_law_729 : decode cL_law 729 = .ok (.iload_n 3, 1) := by decide +kernel
theorem dL_law_730 : decode cL_law 730 = .ok (.iconst 2, 1) := by decide +kernel
theorem dL_law_731 : decode cL_law 731 = .ok (.iadd, 1) := by decide +kernel
theorem dL_law_732 : decode cL_law 732 = .ok (.iaload, 1) := by decide +kernel
theorem dL_law_733 : decode cL_law 733 = .ok (.invokevirtual 106, 3) := by decide +kernel
theorem dL_law_736 : decode cL_law 736 = .ok (.aload_n 2, 1) := by decide +kernel
theorem dL_law_737 : decode cL_law 737 = .ok (.aload_n 0, 1) := by decide +kernel
theorem dL_law_738 : decode cL_law 738 = .ok (.iload_n 3, 1) := by decide +kernel
theorem dL_law_739 : decode cL_law 739 = .ok (.iconst 1, 1) := by decide +kernel
theorem dL_law_740 : decode cL_law 740 = .ok (.iadd, 1) := by decide +kernel
theorem dL_law_741 : decode cL_law 741 = .ok (.iaload, 1) := by decide +kernel
theorem dL_law_742 : decode cL_law 742 = .ok (.aload_n 0, 1) := by decide +kernel
theorem dL_law_743 : decode cL_law 743 = .ok (.iload_n 3, 1) := by decide +kernel
theorem dL_law_744 : decode cL_law 744 = .ok (.iconst 2, 1) := by decide +kernel
theorem dL_law_745 : decode cL_law 745 = .ok (.iadd, 1) := by decide +kernel
theorem dL_law_746 : decode cL_law 746 = .ok (.iaload, 1) := by decide +kernel
theorem dL_law_747 : decode cL_law 747 = .ok (.invokevirtual 109, 3) := by decide +kernel
theorem dL_law_750 : decode cL_law 750 = .ok (.if_icmp .eq 41, 3) := by decide +kernel
theorem dL_law_753 : decode cL_law 753 = .ok (.iconst 0, 1) := by decide +kernel
theorem dL_law_754 : decode cL_law 754 = .ok (.ireturn, 1) := by decide +kernel
theorem dL_law_755 : decode cL_law 755 = .ok (.aload_n 1, 1) := by decide +kernel
theorem dL_law_756 : decode cL_law 756 = .ok (.invokevirtual 110, 3) := by decide +kernel
theorem dL_law_759 : decode cL_law 759 = .ok (.aload_n 2, 1) := by decide +kernel
theorem dL_law_760 : decode cL_law 760 = .ok (.invokevirtual 113, 3) := by decide +kernel
theorem dL_law_763 : decode cL_law 763 = .ok (.if_icmp .eq 28, 3) := by decide +kernel
theorem dL_law_766 : decode cL_law 766 = .ok (.iconst 0, 1) := by decide +kernel
theorem dL_law_767 : decode cL_law 767 = .ok (.ireturn, 1) := by decide +kernel
theorem dL_law_768 : decode cL_law 768 = .ok (.aload_n 1, 1) := by decide +kernel
theorem dL_law_769 : decode cL_law 769 = .ok (.aload_n 0, 1) := by decide +kernel
theorem dL_law_770 : decode cL_law 770 = .ok (.iload_n 3, 1) := by decide +kernel
theorem dL_law_771 : decode cL_law 771 = .ok (.iconst 1, 1) := by decide +kernel
theorem dL_law_772 : decode cL_law 772 = .ok (.iadd, 1) := by decide +kernel
theorem dL_law_773 : decode cL_law 773 = .ok (.iaload, 1) := by decide +kernel
theorem dL_law_774 : decode cL_law 774 = .ok (.invokevirtual 114, 3) := by decide +kernel
theorem dL_law_777 : decode cL_law 777 = .ok (.aload_n 2, 1) := by decide +kernel
theorem dL_law_778 : decode cL_law 778 = .ok (.aload_n 0, 1) := by decide +kernel
theorem dL_law_779 : decode cL_law 779 = .ok (.iload_n 3, 1) := by decide +kernel
theorem dL_law_780 : decode cL_law 780 = .ok (.iconst 1, 1) := by decide +kernel
theorem dL_law_781 : decode cL_law 781 = .ok (.iadd, 1) := by decide +kernel
theorem dL_law_782 : decode cL_law 782 = .ok (.iaload, 1) := by decide +kernel
theorem dL_law_783 : decode cL_law 783 = .ok (.invokevirtual 117, 3) := by decide +kernel
theorem dL_law_786 : decode cL_law 786 = .ok (.if_icmp .eq 5, 3) := by decide +kernel
theorem dL_law_789 : decode cL_law 789 = .ok (.iconst 0, 1) := by decide +kernel
theorem dL_law_790 : decode cL_law 790 = .ok (.ireturn, 1) := by decide +kernel
theorem dL_law_791 : decode cL_law 791 = .ok (.iinc 3 4, 3) := by decide +kernel
theorem dL_law_794 : decode cL_law 794 = .ok (.goto (-776), 3) := by decide +kernel
theorem dL_law_797 : decode cL_law 797 = .ok (.iconst 1, 1) := by decide +kernel
theorem dL_law_798 : decode cL_law 798 = .ok (.ireturn, 1) := by decide +kernel
abbrev vwCl : List vw_C := [(RX0, TX0, 2), (RX1, TX1, 2), (RX2, TX2, 9), (RX3, TX3, 7), (RX4, TX4, 4), (RX5, TX5, 2), (RX6, TX6, 8), (RX7, TX7, 7), (RX8, TX8, 13)]
