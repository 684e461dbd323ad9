theorem dX8_wished_40 : decode cX8_wished 40 = .ok (.bipush (-5), 2) := by decide +kernel
theorem dX8_wished_42 : decode cX8_wished 42 = .ok (.ireturn, 1) := by decide +kernel
set_option maxRecDepth 20000 in
theorem ggX8_ordered_X8_at : GoodIn wsX8_ordered wsX8_at := goodIn_r _ [5, 6, 7, 8, 9, 4, 10, 11, 12, 13, 14, 15, 16, 17, 18, 19, 20, 21, 22, 23, 24, 25, 26, 27, 28, 29, 30, 31, 32, 33, 34, 35] (by decide +kernel) (by decide +kernel)
set_option maxRecDepth 20000 in
theorem gX8_ordered_X8_at : GoodIn wsX8_ordered (wsV RX8 108 RX8 yX8_at wsX8_at) := goodIn_app (goodIn_of _ (by decide +kernel)) ggX8_ordered_X8_at
theorem dX8_ordered_0 : decode cX8_ordered 0 = .ok (.iload_n 1, 1) := by decide +kernel
theorem dX8_ordered_1 : decode cX8_ordered 1 = .ok (.ifCond .ge 8, 3) := by decide +kernel
theorem dX8_ordered_4 : decode cX8_ordered 4 = .ok (.bipush (-2), 2) := by decide +kernel
theorem dX8_ordered_6 : decode cX8_ordered 6 = .ok (.goto 8, 3) := by decide +kernel
theorem dX8_ordered_9 : decode cX8_ordered 9 = .ok (.aload_n 0, 1) := by decide +kernel
theorem dX8_ordered_10 : decode cX8_ordered 10 = .ok (.iload_n 1, 1) := by decide +kernel
theorem dX8_ordered_11 : decode cX8_ordered 11 = .ok (.invokevirtual 108, 3) := by decide +kernel
theorem dX8_ordered_14 : decode cX8_ordered 14 = .ok (.ireturn, 1) := by decide +kernel
set_option maxRecDepth 20000 in
theorem ggX8_envy_X8_doesEnvy : GoodIn wsX8_envy wsX8_doesEnvy := goodIn_r _ [5, 6, 7, 8, 4, 9, 10, 11, 12, 13, 14, 15, 16, 17, 18, 19, 20, 21, 22, 23, 24, 25, 26, 27, 28, 29, 30, 39, 40, 41, 42, 43, 44, 45, 46, 47, 48, 49, 50, 51] (by decide +kernel) (by decide +kernel)
set_option maxRecDepth 20000 in
theorem gX8_envy_X8_doesEnvy : GoodIn wsX8_envy (wsV RX8 120 RX8 yX8_doesEnvy wsX8_doesEnvy) := goodIn_app (goodIn_of _ (by decide +kernel)) ggX8_envy_X8_doesEnvy
set_option maxRecDepth 20000 in
theorem ggX8_envy_X8_isAhead : GoodIn wsX8_envy wsX8_isAhead := goodIn_r _ [34, 6, 7, 8, 4, 9, 10, 35, 36, 37, 38, 39, 40, 41, 42, 43, 44, 45, 46, 47, 48, 49, 50, 51] (by decide +kernel) (by decide +kernel)
set_option maxRecDepth 20000 in
theorem gX8_envy_X8_isAhead : GoodIn wsX8_envy (wsV RX8 77 RX8 yX8_isAhead wsX8_isAhead) := goodIn_app (goodIn_of _ (by decide +kernel)) ggX8_envy_X8_isAhead
theorem dX8_envy_0 : decode cX8_envy 0 = .ok (.aload_n 0, 1) := by decide +kernel
theorem dX8_envy_1 : decode cX8_envy 1 = .ok (.iload_n 1, 1) := by decide +kernel
theorem dX8_envy_2 : decode cX8_envy 2 = .ok (.iload_n 2, 1) := by decide +kernel
theorem dX8_envy_3 : decode cX8_envy 3 = .ok (.invokevirtual 120, 3) := by decide +kernel
theorem dX8_envy_6 : decode cX8_envy 6 = .ok (.ifCond .ne 7, 3) := by decide +kernel
theorem dX8_envy_9 : decode cX8_envy 9 = .ok (.iconst 0, 1) := by decide +kernel
theorem dX8_envy_10 : decode cX8_envy 10 = .ok (.goto 17, 3) := by decide +kernel
theorem dX8_envy_13 : decode cX8_envy 13 = .ok (.aload_n 0, 1) := by decide +kernel
theorem dX8_envy_14 : decode cX8_envy 14 = .ok (.iload_n 1, 1) := by decide +kernel
theorem dX8_envy_15 : decode cX8_envy 15 = .ok (.iload_n 2, 1) := by decide +kernel
theorem dX8_envy_16 : decode cX8_envy 16 = .ok (.invokevirtual 77, 3) := by decide +kernel
theorem dX8_envy_19 : decode cX8_envy 19 = .ok (.ifCond .eq 7, 3) := by decide +kernel
theorem dX8_envy_22 : decode cX8_envy 22 = .ok (.iconst 2, 1) := by decide +kernel
theorem dX8_envy_23 : decode cX8_envy 23 = .ok (.goto 4, 3) := by decide +kernel
theorem dX8_envy_26 : decode cX8_envy 26 = .ok (.iconst 1, 1) := by decide +kernel
theorem dX8_envy_27 : decode cX8_envy 27 = .ok (.ireturn, 1) := by decide +kernel
set_option maxRecDepth 20000 in
theorem ggX8_envies_X8_isHome : GoodIn wsX8_envies wsX8_isHome := goodIn_r _ [5, 6, 7, 8, 4, 9, 50, 51, 52, 53, 54, 55, 56, 57, 58, 59, 60, 61, 62] (by decide +kernel) (by decide +kernel)
set_option maxRecDepth 20000 in
theorem gX8_envies_X8_isHome : GoodIn wsX8_envies (wsV RX8 92 RX8 yX8_isHome wsX8_isHome) := goodIn_app (goodIn_of _ (by decide +kernel)) ggX8_envies_X8_isHome
set_option maxRecDepth 20000 in
theorem ggX8_envies_X8_envy : GoodIn wsX8_envies wsX8_envy := goodIn_r _ [13, 14, 15, 16, 4, 17, 18, 19, 20, 21, 6, 22, 23, 24, 25, 26, 27, 28, 29, 30, 31, 32, 33, 34, 35, 36, 37, 38, 39, 40, 41, 42, 43, 44, 45, 46, 47, 48, 49, 50, 51, 52, 53, 54, 55, 56, 57, 58, 59, 60, 61, 62] (by decide +kernel) (by decide +kernel)
set_option maxRecDepth 20000 in
theorem gX8_envies_X8_envy : GoodIn wsX8_envies (wsV RX8 181 RX8 yX8_envy wsX8_envy) := goodIn_app (goodIn_of _ (by decide +kernel)) ggX8_envies_X8_envy
theorem dX8_envies_0 : decode cX8_envies 0 = .ok (.aload_n 0, 1) := by decide +kernel
theorem dX8_envies_1 : decode cX8_envies 1 = .ok (.iload_n 1, 1) := by decide +kernel
theorem dX8_envies_2 : decode cX8_envies 2 = .ok (.invokevirtual 92, 3) := by decide +kernel
theorem dX8_envies_5 : decode cX8_envies 5 = .ok (.ifCond .eq 11, 3) := by decide +kernel
theorem dX8_envies_8 : decode cX8_envies 8 = .ok (.aload_n 0, 1) := by decide +kernel
theorem dX8_envies_9 : decode cX8_envies 9 = .ok (.iload_n 2, 1) := by decide +kernel
theorem dX8_envies_10 : decode cX8_envies 10 = .ok (.invokevirtual 92, 3) := by decide +kernel
theorem dX8_envies_13 : decode cX8_envies 13 = .ok (.ifCond .ne 5, 3) := by decide +kernel
theorem dX8_envies_16 : decode cX8_envies 16 = .ok (.iconst (-1), 1) := by decide +kernel
theorem dX8_envies_17 : decode cX8_envies 17 = .ok (.ireturn, 1) := by decide +kernel
theorem dX8_envies_18 : decode cX8_envies 18 = .ok (.iload_n 1, 1) := by decide +kernel
theorem dX8_envies_19 : decode cX8_envies 19 = .ok (.iload_n 2, 1) := by decide +kernel
theorem dX8_envies_20 : decode cX8_envies 20 = .ok (.if_icmp .ne 8, 3) := by decide +kernel
theorem dX8_envies_23 : decode cX8_envies 23 = .ok (.bipush (-2), 2) := by decide +kernel
theorem dX8_envies_25 : decode cX8_envies 25 = .ok (.goto 9, 3) := by decide +kernel
theorem dX8_envies_28 : decode cX8_envies 28 = .ok (.aload_n 0, 1) := by decide +kernel
theorem dX8_envies_29 : decode cX8_envies 29 = .ok (.iload_n 1, 1) := by decide +kernel
theorem dX8_envies_30 : decode cX8_envies 30 = .ok (.iload_n 2, 1) := by decide +kernel
theorem dX8_envies_31 : decode cX8_envies 31 = .ok (.invokevirtual 181, 3) := by decide +kernel
theorem dX8_envies_34 : decode cX8_envies 34 = .ok (.ireturn, 1) := by decide +kernel
set_option maxRecDepth 20000 in
theorem ggX8_wouldGet_X8_isHome : GoodIn wsX8_wouldGet wsX8_isHome := goodIn_r _ [5, 6, 7, 8, 4, 9, 50, 51, 52, 53, 54, 55, 56, 57, 58, 59, 60, 61, 62] (by decide +kernel) (by decide +kernel)
set_option maxRecDepth 20000 in
theorem gX8_wouldGet_X8_isHome : GoodIn wsX8_wouldGet (wsV RX8 92 RX8 yX8_isHome wsX8_isHome) := goodIn_app (goodIn_of _ (by decide +kernel)) ggX8_wouldGet_X8_isHome
set_option maxRecDepth 20000 in
theorem ggX8_wouldGet_X8_drawn : GoodIn wsX8_wouldGet wsX8_drawn := goodIn_r _ [13, 6, 14, 15, 16, 4, 17, 18, 19, 20, 21, 50, 51, 52, 53, 54, 55, 56, 57, 58, 59, 60, 61, 62] (by decide +kernel) (by decide +kernel)
set_option maxRecDepth 20000 in
theorem gX8_wouldGet_X8_drawn : GoodIn wsX8_wouldGet (wsV RX8 102 RX8 yX8_drawn wsX8_drawn) := goodIn_app (goodIn_of _ (by decide +kernel)) ggX8_wouldGet_X8_drawn
set_option maxRecDepth 20000 in
theorem ggX8_wouldGet_X8_at : GoodIn wsX8_wouldGet wsX8_at := goodIn_r _ [25, 6, 14, 15, 16, 4, 17, 18, 19, 20, 21, 26, 27, 28, 29, 30, 31, 32, 33, 50, 51, 52, 53, 54, 55, 56, 57, 58, 59, 60, 61, 62] (by decide +kernel) (by decide +kernel)
set_option maxRecDepth 20000 in
theorem gX8_wouldGet_X8_at : GoodIn wsX8_wouldGet (wsV RX8 108 RX8 yX8_at wsX8_at) := goodIn_app (goodIn_of _ (by decide +kernel)) ggX8_wouldGet_X8_at
set_option maxRecDepth 20000 in
theorem ggX8_wouldGet_X8_firstOf : GoodIn wsX8_wouldGet wsX8_firstOf := goodIn_r _ [37, 18, 19, 20, 4, 21, 6, 38, 39, 40, 41, 42, 43, 44, 45, 46, 47, 48, 49, 50, 51, 52, 53, 54, 55, 56, 57, 58, 59, 60, 61, 62] (by decide +kernel) (by decide +kernel)
set_option maxRecDepth 20000 in
theorem gX8_wouldGet_X8_firstOf : GoodIn wsX8_wouldGet (wsV RX8 114 RX8 yX8_firstOf wsX8_firstOf) := goodIn_app (goodIn_of _ (by decide +kernel)) ggX8_wouldGet_X8_firstOf
theorem dX8_wouldGet_0 : decode cX8_wouldGet 0 = .ok (.aload_n 0, 1) := by decide +kernel
theorem dX8_wouldGet_1 : decode cX8_wouldGet 1 = .ok (.iload_n 1, 1) := by decide +kernel
theorem dX8_wouldGet_2 : decode cX8_wouldGet 2 = .ok (.invokevirtual 92, 3) := by decide +kernel
theorem dX8_wouldGet_5 : decode cX8_wouldGet 5 = .ok (.ifCond .eq 17, 3) := by decide +kernel
theorem dX8_wouldGet_8 : decode cX8_wouldGet 8 = .ok (.iload_n 2, 1) := by decide +kernel
theorem dX8_wouldGet_9 : decode cX8_wouldGet 9 = .ok (.bipush (-5), 2) := by decide +kernel
theorem dX8_wouldGet_11 : decode cX8_wouldGet 11 = .ok (.if_icmp .eq 13, 3) := by decide +kernel
theorem dX8_wouldGet_14 : decode cX8_wouldGet 14 = .ok (.aload_n 0, 1) := by decide +kernel
theorem dX8_wouldGet_15 : decode cX8_wouldGet 15 = .ok (.iload_n 2, 1) := by decide +kernel
theorem dX8_wouldGet_16 : decode cX8_wouldGet 16 = .ok (.invokevirtual 92, 3) := by decide +kernel
theorem dX8_wouldGet_19 : decode cX8_wouldGet 19 = .ok (.ifCond .ne 5, 3) := by decide +kernel
theorem dX8_wouldGet_22 : decode cX8_wouldGet 22 = .ok (.iconst (-1), 1) := by decide +kernel
theorem dX8_wouldGet_23 : decode cX8_wouldGet 23 = .ok (.ireturn, 1) := by decide +kernel
theorem dX8_wouldGet_24 : decode cX8_wouldGet 24 = .ok (.iconst 0, 1) := by decide +kernel
theorem dX8_wouldGet_25 : decode cX8_wouldGet 25 = .ok (.istore_n 3, 1) := by decide +kernel
theorem dX8_wouldGet_26 : decode cX8_wouldGet 26 = .ok (.aload_n 0, 1) := by decide +kernel
theorem dX8_wouldGet_27 : decode cX8_wouldGet 27 = .ok (.invokevirtual 102, 3) := by decide +kernel
theorem dX8_wouldGet_30 : decode cX8_wouldGet 30 = .ok (.istore 4, 2) := by decide +kernel
theorem dX8_wouldGet_32 : decode cX8_wouldGet 32 = .ok (.iconst 0, 1) := by decide +kernel
theorem dX8_wouldGet_33 : decode cX8_wouldGet 33 = .ok (.istore 5, 2) := by decide +kernel
theorem dX8_wouldGet_35 : decode cX8_wouldGet 35 = .ok (.iload 5, 2) := by decide +kernel
theorem dX8_wouldGet_37 : decode cX8_wouldGet 37 = .ok (.iload 4, 2) := by decide +kernel
theorem dX8_wouldGet_39 : decode cX8_wouldGet 39 = .ok (.if_icmp .ge 64, 3) := by decide +kernel
theorem dX8_wouldGet_42 : decode cX8_wouldGet 42 = .ok (.aload_n 0, 1) := by decide +kernel
theorem dX8_wouldGet_43 : decode cX8_wouldGet 43 = .ok (.iload 5, 2) := by decide +kernel
theorem dX8_wouldGet_45 : decode cX8_wouldGet 45 = .ok (.invokevirtual 108, 3) := by decide +kernel
theorem dX8_wouldGet_48 : decode cX8_wouldGet 48 = .ok (.istore 6, 2) := by decide +kernel
theorem dX8_wouldGet_50 : decode cX8_wouldGet 50 = .ok (.iload 6, 2) := by decide +kernel
theorem dX8_wouldGet_52 : decode cX8_wouldGet 52 = .ok (.iload_n 2, 1) := by decide +kernel
theorem dX8_wouldGet_53 : decode cX8_wouldGet 53 = .ok (.if_icmp .ne 8, 3) := by decide +kernel
theorem dX8_wouldGet_56 : decode cX8_wouldGet 56 = .ok (.bipush (-5), 2) := by decide +kernel
theorem dX8_wouldGet_58 : decode cX8_wouldGet 58 = .ok (.goto 10, 3) := by decide +kernel
theorem dX8_wouldGet_61 : decode cX8_wouldGet 61 = .ok (.aload_n 0, 1) := by decide +kernel
theorem dX8_wouldGet_62 : decode cX8_wouldGet 62 = .ok (.iload 6, 2) := by decide +kernel
theorem dX8_wouldGet_64 : decode cX8_wouldGet 64 = .ok (.iload_n 3, 1) := by decide +kernel
theorem dX8_wouldGet_65 : decode cX8_wouldGet 65 = .ok (.invokevirtual 114, 3) := by decide +kernel
theorem dX8_wouldGet_68 : decode cX8_wouldGet 68 = .ok (.istore 7, 2) := by decide +kernel
theorem dX8_wouldGet_70 : decode cX8_wouldGet 70 = .ok (.iload 6, 2) := by decide +kernel
theorem dX8_wouldGet_72 : decode cX8_wouldGet 72 = .ok (.iload_n 1, 1) := by decide +kernel
theorem dX8_wouldGet_73 : decode cX8_wouldGet 73 = .ok (.if_icmp .ne 6, 3) := by decide +kernel
theorem dX8_wouldGet_76 : decode cX8_wouldGet 76 = .ok (.iload 7, 2) := by decide +kernel
theorem dX8_wouldGet_78 : decode cX8_wouldGet 78 = .ok (.ireturn, 1) := by decide +kernel
theorem dX8_wouldGet_79 : decode cX8_wouldGet 79 = .ok (.iload_n 3, 1) := by decide +kernel
theorem dX8_wouldGet_80 : decode cX8_wouldGet 80 = .ok (.iload 7, 2) := by decide +kernel
theorem dX8_wouldGet_82 : decode cX8_wouldGet 82 = .ok (.bipush (-5), 2) := by decide +kernel
theorem dX8_wouldGet_84 : decode cX8_wouldGet 84 = .ok (.if_icmp .ne 7, 3) := by decide +kernel
theorem dX8_wouldGet_87 : decode cX8_wouldGet 87 = .ok (.iconst 0, 1) := by decide +kernel
theorem dX8_wouldGet_88 : decode cX8_wouldGet 88 = .ok (.goto 7, 3) := by decide +kernel
theorem dX8_wouldGet_91 : decode cX8_wouldGet 91 = .ok (.iconst 1, 1) := by decide +kernel
theorem dX8_wouldGet_92 : decode cX8_wouldGet 92 = .ok (.iload 7, 2) := by decide +kernel
theorem dX8_wouldGet_94 : decode cX8_wouldGet 94 = .ok (.ishl, 1) := by decide +kernel
theorem dX8_wouldGet_95 : decode cX8_wouldGet 95 = .ok (.ior, 1) := by decide +kernel
theorem dX8_wouldGet_96 : decode cX8_wouldGet 96 = .ok (.istore_n 3, 1) := by decide +kernel
theorem dX8_wouldGet_97 : decode cX8_wouldGet 97 = .ok (.iinc 5 1, 3) := by decide +kernel
theorem dX8_wouldGet_100 : decode cX8_wouldGet 100 = .ok (.goto (-65), 3) := by decide +kernel
theorem dX8_wouldGet_103 : decode cX8_wouldGet 103 = .ok (.bipush (-5), 2) := by decide +kernel
theorem dX8_wouldGet_105 : decode cX8_wouldGet 105 = .ok (.ireturn, 1) := by decide +kernel
theorem dX8_ones_0 : decode cX8_ones 0 = .ok (.iconst 0, 1) := by decide +kernel
theorem dX8_ones_1 : decode cX8_ones 1 = .ok (.istore_n 1, 1) := by decide +kernel
theorem dX8_ones_2 : decode cX8_ones 2 = .ok (.iconst 0, 1) := by decide +kernel
theorem dX8_ones_3 : decode cX8_ones 3 = .ok (.istore_n 2, 1) := by decide +kernel
theorem dX8_ones_4 : decode cX8_ones 4 = .ok (.iload_n 2, 1) := by decide +kernel
theorem dX8_ones_5 : decode cX8_ones 5 = .ok (.bipush 12, 2) := by decide +kernel
theorem dX8_ones_7 : decode cX8_ones 7 = .ok (.if_icmp .ge 17, 3) := by decide +kernel
theorem dX8_ones_10 : decode cX8_ones 10 = .ok (.iload_n 1, 1) := by decide +kernel
theorem dX8_ones_11 : decode cX8_ones 11 = .ok (.iload_n 0, 1) := by decide +kernel
theorem dX8_ones_12 : decode cX8_ones 12 = .ok (.iload_n 2, 1) := by decide +kernel
theorem dX8_ones_13 : decode cX8_ones 13 = .ok (.ishr, 1) := by decide +kernel
theorem dX8_ones_14 : decode cX8_ones 14 = .ok (.iconst 1, 1) := by decide +kernel
theorem dX8_ones_15 : decode cX8_ones 15 = .ok (.iand, 1) := by decide +kernel
theorem dX8_ones_16 : decode cX8_ones 16 = .ok (.iadd, 1) := by decide +kernel
theorem dX8_ones_17 : decode cX8_ones 17 = .ok (.istore_n 1, 1) := by decide +kernel
theorem dX8_ones_18 : decode cX8_ones 18 = .ok (.iinc 2 1, 3) := by decide +kernel
theorem dX8_ones_21 : decode cX8_ones 21 = .ok (.goto (-17), 3) := by decide +kernel
theorem dX8_ones_24 : decode cX8_ones 24 = .ok (.iload_n 1, 1) := by decide +kernel
theorem dX8_ones_25 : decode cX8_ones 25 = .ok (.ireturn, 1) := by decide +kernel
set_option maxRecDepth 20000 in
theorem ggX8_goods_X8_of : GoodIn wsX8_goods wsX8_of := goodIn_r _ [5, 6, 19, 20, 21, 22, 23, 24, 25, 26, 27, 28, 29, 30, 31] (by decide +kernel) (by decide +kernel)
set_option maxRecDepth 20000 in
theorem gX8_goods_X8_of : GoodIn wsX8_goods (wsV RX8 59 RX8 yX8_of wsX8_of) := goodIn_app (goodIn_of _ (by decide +kernel)) ggX8_goods_X8_of
set_option maxRecDepth 20000 in
theorem ggX8_goods_X8_isEligible : GoodIn wsX8_goods wsX8_isEligible := goodIn_r _ [10, 1, 2, 3, 4, 5, 6, 11, 12, 13, 14, 15, 16, 17, 18, 19, 20, 21, 22, 23, 24, 25, 26, 27, 28, 29, 30, 31] (by decide +kernel) (by decide +kernel)
set_option maxRecDepth 20000 in
theorem gX8_goods_X8_isEligible : GoodIn wsX8_goods (wsV RX8 105 RX8 yX8_isEligible wsX8_isEligible) := goodIn_app (goodIn_of _ (by decide +kernel)) ggX8_goods_X8_isEligible
theorem dX8_goods_0 : decode cX8_goods 0 = .ok (.iconst 0, 1) := by decide +kernel
theorem dX8_goods_1 : decode cX8_goods 1 = .ok (.istore_n 2, 1) := by decide +kernel
theorem dX8_goods_2 : decode cX8_goods 2 = .ok (.iconst 0, 1) := by decide +kernel
theorem dX8_goods_3 : decode cX8_goods 3 = .ok (.istore_n 3, 1) := by decide +kernel
theorem dX8_goods_4 : decode cX8_goods 4 = .ok (.iload_n 3, 1) := by decide +kernel
theorem dX8_goods_5 : decode cX8_goods 5 = .ok (.aload_n 0, 1) := by decide +kernel
theorem dX8_goods_6 : decode cX8_goods 6 = .ok (.iload_n 1, 1) := by decide +kernel
theorem dX8_goods_7 : decode cX8_goods 7 = .ok (.bipush 7, 2) := by decide +kernel
theorem dX8_goods_9 : decode cX8_goods 9 = .ok (.invokevirtual 59, 3) := by decide +kernel
theorem dX8_goods_12 : decode cX8_goods 12 = .ok (.if_icmp .ge 41, 3) := by decide +kernel
theorem dX8_goods_15 : decode cX8_goods 15 = .ok (.aload_n 0, 1) := by decide +kernel
theorem dX8_goods_16 : decode cX8_goods 16 = .ok (.iload_n 1, 1) := by decide +kernel
theorem dX8_goods_17 : decode cX8_goods 17 = .ok (.bipush 8, 2) := by decide +kernel
theorem dX8_goods_19 : decode cX8_goods 19 = .ok (.iload_n 3, 1) := by decide +kernel
theorem dX8_goods_20 : decode cX8_goods 20 = .ok (.iadd, 1) := by decide +kernel
theorem dX8_goods_21 : decode cX8_goods 21 = .ok (.invokevirtual 59, 3) := by decide +kernel
theorem dX8_goods_24 : decode cX8_goods 24 = .ok (.istore 4, 2) := by decide +kernel
theorem dX8_goods_26 : decode cX8_goods 26 = .ok (.iload_n 2, 1) := by decide +kernel
theorem dX8_goods_27 : decode cX8_goods 27 = .ok (.aload_n 0, 1) := by decide +kernel
theorem dX8_goods_28 : decode cX8_goods 28 = .ok (.iload_n 1, 1) := by decide +kernel
theorem dX8_goods_29 : decode cX8_goods 29 = .ok (.iload 4, 2) := by decide +kernel
theorem dX8_goods_31 : decode cX8_goods 31 = .ok (.invokevirtual 105, 3) := by decide +kernel
theorem dX8_goods_34 : decode cX8_goods 34 = .ok (.ifCond .eq 10, 3) := by decide +kernel
theorem dX8_goods_37 : decode cX8_goods 37 = .ok (.iconst 1, 1) := by decide +kernel
theorem dX8_goods_38 : decode cX8_goods 38 = .ok (.iload 4, 2) := by decide +kernel
theorem dX8_goods_40 : decode cX8_goods 40 = .ok (.ishl, 1) := by decide +kernel
theorem dX8_goods_41 : decode cX8_goods 41 = .ok (.goto 4, 3) := by decide +kernel
theorem dX8_goods_44 : decode cX8_goods 44 = .ok (.iconst 0, 1) := by decide +kernel
theorem dX8_goods_45 : decode cX8_goods 45 = .ok (.ior, 1) := by decide +kernel
theorem dX8_goods_46 : decode cX8_goods 46 = .ok (.istore_n 2, 1) := by decide +kernel
theorem dX8_goods_47 : decode cX8_goods 47 = .ok (.iinc 3 1, 3) := by decide +kernel
theorem dX8_goods_50 : decode cX8_goods 50 = .ok (.goto (-46), 3) := by decide +kernel
theorem dX8_goods_53 : decode cX8_goods 53 = .ok (.iload_n 2, 1) := by decide +kernel
theorem dX8_goods_54 : decode cX8_goods 54 = .ok (.ireturn, 1) := by decide +kernel
set_option maxRecDepth 20000 in
theorem ggX8_most_X8_goods : GoodIn wsX8_most wsX8_goods := goodIn_r _ [7, 8, 9, 10, 6, 11, 2, 12, 13, 14, 15, 16, 17, 18, 19, 20, 21, 22, 23, 27, 28, 29, 30, 31, 32, 33, 34, 35, 36, 37, 38, 39] (by decide +kernel) (by decide +kernel)
set_option maxRecDepth 20000 in
theorem gX8_most_X8_goods : GoodIn wsX8_most (wsV RX8 184 RX8 yX8_goods wsX8_goods) := goodIn_app (goodIn_of _ (by decide +kernel)) ggX8_most_X8_goods
set_option maxRecDepth 20000 in
theorem ggX8_most_X8_ones : GoodIn wsX8_most wsX8_ones := goodIn_r _ [26] (by decide +kernel) (by decide +kernel)
set_option maxRecDepth 20000 in
theorem gX8_most_X8_ones : GoodIn wsX8_most (va_wsS RX8 187 yX8_ones wsX8_ones) := goodIn_app (goodIn_of _ (by decide +kernel)) ggX8_most_X8_ones
theorem dX8_most_0 : decode cX8_most 0 = .ok (.iconst 0, 1) := by decide +kernel
theorem dX8_most_1 : decode cX8_most 1 = .ok (.istore_n 1, 1) := by decide +kernel
theorem dX8_most_2 : decode cX8_most 2 = .ok (.iload_n 1, 1) := by decide +kernel
theorem dX8_most_3 : decode cX8_most 3 = .ok (.sipush 4096, 3) := by decide +kernel
theorem dX8_most_6 : decode cX8_most 6 = .ok (.if_icmp .ge 24, 3) := by decide +kernel
theorem dX8_most_9 : decode cX8_most 9 = .ok (.aload_n 0, 1) := by decide +kernel
theorem dX8_most_10 : decode cX8_most 10 = .ok (.getfield 32, 3) := by decide +kernel
theorem dX8_most_13 : decode cX8_most 13 = .ok (.iload_n 1, 1) := by decide +kernel
theorem dX8_most_14 : decode cX8_most 14 = .ok (.iload_n 1, 1) := by decide +kernel
theorem dX8_most_15 : decode cX8_most 15 = .ok (.ifCond .ne 7, 3) := by decide +kernel
theorem dX8_most_18 : decode cX8_most 18 = .ok (.iconst 1, 1) := by decide +kernel
theorem dX8_most_19 : decode cX8_most 19 = .ok (.goto 4, 3) := by decide +kernel
theorem dX8_most_22 : decode cX8_most 22 = .ok (.iconst 0, 1) := by decide +kernel
theorem dX8_most_23 : decode cX8_most 23 = .ok (.bastore, 1) := by decide +kernel
theorem dX8_most_24 : decode cX8_most 24 = .ok (.iinc 1 1, 3) := by decide +kernel
theorem dX8_most_27 : decode cX8_most 27 = .ok (.goto (-25), 3) := by decide +kernel
theorem dX8_most_30 : decode cX8_most 30 = .ok (.iconst 0, 1) := by decide +kernel
theorem dX8_most_31 : decode cX8_most 31 = .ok (.istore_n 1, 1) := by decide +kernel
theorem dX8_most_32 : decode cX8_most 32 = .ok (.iconst 0, 1) := by decide +kernel
theorem dX8_most_33 : decode cX8_most 33 = .ok (.istore_n 2, 1) := by decide +kernel
theorem dX8_most_34 : decode cX8_most 34 = .ok (.iload_n 2, 1) := by decide +kernel
theorem dX8_most_35 : decode cX8_most 35 = .ok (.aload_n 0, 1) := by decide +kernel
theorem dX8_most_36 : decode cX8_most 36 = .ok (.getfield 7, 3) := by decide +kernel
theorem dX8_most_39 : decode cX8_most 39 = .ok (.iconst 1, 1) := by decide +kernel
theorem dX8_most_40 : decode cX8_most 40 = .ok (.iaload, 1) := by decide +kernel
theorem dX8_most_41 : decode cX8_most 41 = .ok (.if_icmp .ge 84, 3) := by decide +kernel
theorem dX8_most_44 : decode cX8_most 44 = .ok (.aload_n 0, 1) := by decide +kernel
theorem dX8_most_45 : decode cX8_most 45 = .ok (.iload_n 2, 1) := by decide +kernel
theorem dX8_most_46 : decode cX8_most 46 = .ok (.invokevirtual 184, 3) := by decide +kernel
theorem dX8_most_49 : decode cX8_most 49 = .ok (.istore_n 3, 1) := by decide +kernel
theorem dX8_most_50 : decode cX8_most 50 = .ok (.sipush 4095, 3) := by decide +kernel
theorem dX8_most_53 : decode cX8_most 53 = .ok (.istore 4, 2) := by decide +kernel
theorem dX8_most_55 : decode cX8_most 55 = .ok (.iload 4, 2) := by decide +kernel
theorem dX8_most_57 : decode cX8_most 57 = .ok (.ifCond .lt 62, 3) := by decide +kernel
theorem dX8_most_60 : decode cX8_most 60 = .ok (.iconst 0, 1) := by decide +kernel
theorem dX8_most_61 : decode cX8_most 61 = .ok (.istore 5, 2) := by decide +kernel
theorem dX8_most_63 : decode cX8_most 63 = .ok (.iload 5, 2) := by decide +kernel
theorem dX8_most_65 : decode cX8_most 65 = .ok (.bipush 12, 2) := by decide +kernel
theorem dX8_most_67 : decode cX8_most 67 = .ok (.if_icmp .ge 46, 3) := by decide +kernel
theorem dX8_most_70 : decode cX8_most 70 = .ok (.aload_n 0, 1) := by decide +kernel
theorem dX8_most_71 : decode cX8_most 71 = .ok (.getfield 32, 3) := by decide +kernel
theorem dX8_most_74 : decode cX8_most 74 = .ok (.iload 4, 2) := by decide +kernel
theorem dX8_most_76 : decode cX8_most 76 = .ok (.baload, 1) := by decide +kernel
theorem dX8_most_77 : decode cX8_most 77 = .ok (.ifCond .eq 36, 3) := by decide +kernel
theorem dX8_most_80 : decode cX8_most 80 = .ok (.iload_n 3, 1) := by decide +kernel
theorem dX8_most_81 : decode cX8_most 81 = .ok (.iload 4, 2) := by decide +kernel
theorem dX8_most_83 : decode cX8_most 83 = .ok (.iconst (-1), 1) := by decide +kernel
theorem dX8_most_84 : decode cX8_most 84 = .ok (.ixor, 1) := by decide +kernel
theorem dX8_most_85 : decode cX8_most 85 = .ok (.iand, 1) := by decide +kernel
theorem dX8_most_86 : decode cX8_most 86 = .ok (.iconst 1, 1) := by decide +kernel
theorem dX8_most_87 : decode cX8_most 87 = .ok (.iload 5, 2) := by decide +kernel
theorem dX8_most_89 : decode cX8_most 89 = .ok (.ishl, 1) := by decide +kernel
theorem dX8_most_90 : decode cX8_most 90 = .ok (.iand, 1) := by decide +kernel
theorem dX8_most_91 : decode cX8_most 91 = .ok (.ifCond .eq 16, 3) := by decide +kernel
theorem dX8_most_94 : decode cX8_most 94 = .ok (.aload_n 0, 1) := by decide +kernel
theorem dX8_most_95 : decode cX8_most 95 = .ok (.getfield 32, 3) := by decide +kernel
theorem dX8_most_98 : decode cX8_most 98 = .ok (.iload 4, 2) := by decide +kernel
theorem dX8_most_100 : decode cX8_most 100 = .ok (.iconst 1, 1) := by decide +kernel
theorem dX8_most_101 : decode cX8_most 101 = .ok (.iload 5, 2) := by decide +kernel
theorem dX8_most_103 : decode cX8_most 103 = .ok (.ishl, 1) := by decide +kernel
theorem dX8_most_104 : decode cX8_most 104 = .ok (.ior, 1) := by decide +kernel
theorem dX8_most_105 : decode cX8_most 105 = .ok (.iconst 1, 1) := by decide +kernel
theorem dX8_most_106 : decode cX8_most 106 = .ok (.bastore, 1) := by decide +kernel
theorem dX8_most_107 : decode cX8_most 107 = .ok (.iinc 5 1, 3) := by decide +kernel
theorem dX8_most_110 : decode cX8_most 110 = .ok (.goto (-47), 3) := by decide +kernel
theorem dX8_most_113 : decode cX8_most 113 = .ok (.iinc 4 (-1), 3) := by decide +kernel
theorem dX8_most_116 : decode cX8_most 116 = .ok (.goto (-61), 3) := by decide +kernel
theorem dX8_most_119 : decode cX8_most 119 = .ok (.iinc 2 1, 3) := by decide +kernel
theorem dX8_most_122 : decode cX8_most 122 = .ok (.goto (-88), 3) := by decide +kernel
theorem dX8_most_125 : decode cX8_most 125 = .ok (.iconst 0, 1) := by decide +kernel
theorem dX8_most_126 : decode cX8_most 126 = .ok (.istore_n 2, 1) := by decide +kernel
theorem dX8_most_127 : decode cX8_most 127 = .ok (.iload_n 2, 1) := by decide +kernel
theorem dX8_most_128 : decode cX8_most 128 = .ok (.sipush 4096, 3) := by decide +kernel
theorem dX8_most_131 : decode cX8_most 131 = .ok (.if_icmp .ge 35, 3) := by decide +kernel
theorem dX8_most_134 : decode cX8_most 134 = .ok (.aload_n 0, 1) := by decide +kernel
theorem dX8_most_135 : decode cX8_most 135 = .ok (.getfield 32, 3) := by decide +kernel
theorem dX8_most_138 : decode cX8_most 138 = .ok (.iload_n 2, 1) := by decide +kernel
theorem dX8_most_139 : decode cX8_most 139 = .ok (.baload, 1) := by decide +kernel
theorem dX8_most_140 : decode cX8_most 140 = .ok (.ifCond .eq 18, 3) := by decide +kernel
theorem dX8_most_143 : decode cX8_most 143 = .ok (.iload_n 2, 1) := by decide +kernel
theorem dX8_most_144 : decode cX8_most 144 = .ok (.invokestatic 187, 3) := by decide +kernel
theorem dX8_most_147 : decode cX8_most 147 = .ok (.iload_n 1, 1) := by decide +kernel
theorem dX8_most_148 : decode cX8_most 148 = .ok (.if_icmp .le 10, 3) := by decide +kernel
theorem dX8_most_151 : decode cX8_most 151 = .ok (.iload_n 2, 1) := by decide +kernel
theorem dX8_most_152 : decode cX8_most 152 = .ok (.invokestatic 187, 3) := by decide +kernel
theorem dX8_most_155 : decode cX8_most 155 = .ok (.goto 4, 3) := by decide +kernel
theorem dX8_most_158 : decode cX8_most 158 = .ok (.iload_n 1, 1) := by decide +kernel
theorem dX8_most_159 : decode cX8_most 159 = .ok (.istore_n 1, 1) := by decide +kernel
theorem dX8_most_160 : decode cX8_most 160 = .ok (.iinc 2 1, 3) := by decide +kernel
theorem dX8_most_163 : decode cX8_most 163 = .ok (.goto (-36), 3) := by decide +kernel
theorem dX8_most_166 : decode cX8_most 166 = .ok (.iload_n 1, 1) := by decide +kernel
theorem dX8_most_167 : decode cX8_most 167 = .ok (.ireturn, 1) := by decide +kernel
set_option maxRecDepth 20000 in
theorem ggX8_pairs_X8_envy : GoodIn wsX8_pairs wsX8_envy := goodIn_r _ [6, 7, 8, 9, 5, 10, 11, 12, 13, 14, 1, 15, 16, 17, 18, 19, 20, 21, 22, 23, 24, 25, 26, 27, 28, 29, 30, 31, 32, 33, 34, 35, 36, 37, 38, 39, 40, 41, 42, 43, 44, 45, 46, 47, 48, 49, 50, 51, 52, 53, 54, 55] (by decide +kernel) (by decide +kernel)
set_option maxRecDepth 20000 in
theorem gX8_pairs_X8_envy : GoodIn wsX8_pairs (wsV RX8 181 RX8 yX8_envy wsX8_envy) := goodIn_app (goodIn_of _ (by decide +kernel)) ggX8_pairs_X8_envy
theorem dX8_pairs_0 : decode cX8_pairs 0 = .ok (.iconst 0, 1) := by decide +kernel
theorem dX8_pairs_1 : decode cX8_pairs 1 = .ok (.istore_n 2, 1) := by decide +kernel
theorem dX8_pairs_2 : decode cX8_pairs 2 = .ok (.iconst 0, 1) := by decide +kernel
theorem dX8_pairs_3 : decode cX8_pairs 3 = .ok (.istore_n 3, 1) := by decide +kernel
theorem dX8_pairs_4 : decode cX8_pairs 4 = .ok (.iload_n 3, 1) := by decide +kernel
theorem dX8_pairs_5 : decode cX8_pairs 5 = .ok (.aload_n 0, 1) := by decide +kernel
theorem dX8_pairs_6 : decode cX8_pairs 6 = .ok (.getfield 7, 3) := by decide +kernel
theorem dX8_pairs_9 : decode cX8_pairs 9 = .ok (.iconst 1, 1) := by decide +kernel
theorem dX8_pairs_10 : decode cX8_pairs 10 = .ok (.iaload, 1) := by decide +kernel
theorem dX8_pairs_11 : decode cX8_pairs 11 = .ok (.aload_n 0, 1) := by decide +kernel
theorem dX8_pairs_12 : decode cX8_pairs 12 = .ok (.getfield 7, 3) := by decide +kernel
theorem dX8_pairs_15 : decode cX8_pairs 15 = .ok (.iconst 1, 1) := by decide +kernel
theorem dX8_pairs_16 : decode cX8_pairs 16 = .ok (.iaload, 1) := by decide +kernel
theorem dX8_pairs_17 : decode cX8_pairs 17 = .ok (.imul, 1) := by decide +kernel
theorem dX8_pairs_18 : decode cX8_pairs 18 = .ok (.if_icmp .ge 41, 3) := by decide +kernel
theorem dX8_pairs_21 : decode cX8_pairs 21 = .ok (.iload_n 2, 1) := by decide +kernel
theorem dX8_pairs_22 : decode cX8_pairs 22 = .ok (.aload_n 0, 1) := by decide +kernel
theorem dX8_pairs_23 : decode cX8_pairs 23 = .ok (.iload_n 3, 1) := by decide +kernel
theorem dX8_pairs_24 : decode cX8_pairs 24 = .ok (.aload_n 0, 1) := by decide +kernel
theorem dX8_pairs_25 : decode cX8_pairs 25 = .ok (.getfield 7, 3) := by decide +kernel
theorem dX8_pairs_28 : decode cX8_pairs 28 = .ok (.iconst 1, 1) := by decide +kernel
theorem dX8_pairs_29 : decode cX8_pairs 29 = .ok (.iaload, 1) := by decide +kernel
theorem dX8_pairs_30 : decode cX8_pairs 30 = .ok (.idiv, 1) := by decide +kernel
theorem dX8_pairs_31 : decode cX8_pairs 31 = .ok (.iload_n 3, 1) := by decide +kernel
theorem dX8_pairs_32 : decode cX8_pairs 32 = .ok (.aload_n 0, 1) := by decide +kernel
theorem dX8_pairs_33 : decode cX8_pairs 33 = .ok (.getfield 7, 3) := by decide +kernel
theorem dX8_pairs_36 : decode cX8_pairs 36 = .ok (.iconst 1, 1) := by decide +kernel
theorem dX8_pairs_37 : decode cX8_pairs 37 = .ok (.iaload, 1) := by decide +kernel
theorem dX8_pairs_38 : decode cX8_pairs 38 = .ok (.irem, 1) := by decide +kernel
theorem dX8_pairs_39 : decode cX8_pairs 39 = .ok (.invokevirtual 181, 3) := by decide +kernel
theorem dX8_pairs_42 : decode cX8_pairs 42 = .ok (.iload_n 1, 1) := by decide +kernel
theorem dX8_pairs_43 : decode cX8_pairs 43 = .ok (.if_icmp .lt 7, 3) := by decide +kernel
theorem dX8_pairs_46 : decode cX8_pairs 46 = .ok (.iconst 1, 1) := by decide +kernel
theorem dX8_pairs_47 : decode cX8_pairs 47 = .ok (.goto 4, 3) := by decide +kernel
theorem dX8_pairs_50 : decode cX8_pairs 50 = .ok (.iconst 0, 1) := by decide +kernel
theorem dX8_pairs_51 : decode cX8_pairs 51 = .ok (.iadd, 1) := by decide +kernel
theorem dX8_pairs_52 : decode cX8_pairs 52 = .ok (.istore_n 2, 1) := by decide +kernel
theorem dX8_pairs_53 : decode cX8_pairs 53 = .ok (.iinc 3 1, 3) := by decide +kernel
theorem dX8_pairs_56 : decode cX8_pairs 56 = .ok (.goto (-52), 3) := by decide +kernel
theorem dX8_pairs_59 : decode cX8_pairs 59 = .ok (.iload_n 2, 1) := by decide +kernel
theorem dX8_pairs_60 : decode cX8_pairs 60 = .ok (.ireturn, 1) := by decide +kernel
set_option maxRecDepth 20000 in
theorem ggX8_inRings_X8_isInRing : GoodIn wsX8_inRings wsX8_isInRing := goodIn_r _ [6, 7, 8, 9, 5, 10, 11, 12, 13, 14, 1, 15, 16, 17, 18, 19, 20, 21, 22, 23, 24, 25, 26, 27, 28, 29, 30, 31, 32, 33, 34, 35, 36, 37, 38, 39, 40, 41, 42, 43, 44, 45, 46, 47, 48, 49, 50, 51] (by decide +kernel) (by decide +kernel)
set_option maxRecDepth 20000 in
theorem gX8_inRings_X8_isInRing : GoodIn wsX8_inRings (wsV RX8 135 RX8 yX8_isInRing wsX8_isInRing) := goodIn_app (goodIn_of _ (by decide +kernel)) ggX8_inRings_X8_isInRing
theorem dX8_inRings_0 : decode cX8_inRings 0 = .ok (.iconst 0, 1) := by decide +kernel
theorem dX8_inRings_1 : decode cX8_inRings 1 = .ok (.istore_n 1, 1) := by decide +kernel
theorem dX8_inRings_2 : decode cX8_inRings 2 = .ok (.iconst 0, 1) := by decide +kernel
theorem dX8_inRings_3 : decode cX8_inRings 3 = .ok (.istore_n 2, 1) := by decide +kernel
theorem dX8_inRings_4 : decode cX8_inRings 4 = .ok (.iload_n 2, 1) := by decide +kernel
theorem dX8_inRings_5 : decode cX8_inRings 5 = .ok (.aload_n 0, 1) := by decide +kernel
theorem dX8_inRings_6 : decode cX8_inRings 6 = .ok (.getfield 7, 3) := by decide +kernel
theorem dX8_inRings_9 : decode cX8_inRings 9 = .ok (.iconst 1, 1) := by decide +kernel
theorem dX8_inRings_10 : decode cX8_inRings 10 = .ok (.iaload, 1) := by decide +kernel
theorem dX8_inRings_11 : decode cX8_inRings 11 = .ok (.if_icmp .ge 25, 3) := by decide +kernel
theorem dX8_inRings_14 : decode cX8_inRings 14 = .ok (.iload_n 1, 1) := by decide +kernel
theorem dX8_inRings_15 : decode cX8_inRings 15 = .ok (.aload_n 0, 1) := by decide +kernel
theorem dX8_inRings_16 : decode cX8_inRings 16 = .ok (.iload_n 2, 1) := by decide +kernel
theorem dX8_inRings_17 : decode cX8_inRings 17 = .ok (.invokevirtual 135, 3) := by decide +kernel
theorem dX8_inRings_20 : decode cX8_inRings 20 = .ok (.ifCond .eq 7, 3) := by decide +kernel
theorem dX8_inRings_23 : decode cX8_inRings 23 = .ok (.iconst 1, 1) := by decide +kernel
theorem dX8_inRings_24 : decode cX8_inRings 24 = .ok (.goto 4, 3) := by decide +kernel
theorem dX8_inRings_27 : decode cX8_inRings 27 = .ok (.iconst 0, 1) := by decide +kernel
theorem dX8_inRings_28 : decode cX8_inRings 28 = .ok (.iadd, 1) := by decide +kernel
theorem dX8_inRings_29 : decode cX8_inRings 29 = .ok (.istore_n 1, 1) := by decide +kernel
theorem dX8_inRings_30 : decode cX8_inRings 30 = .ok (.iinc 2 1, 3) := by decide +kernel
theorem dX8_inRings_33 : decode cX8_inRings 33 = .ok (.goto (-29), 3) := by decide +kernel
theorem dX8_inRings_36 : decode cX8_inRings 36 = .ok (.iload_n 1, 1) := by decide +kernel
theorem dX8_inRings_37 : decode cX8_inRings 37 = .ok (.ireturn, 1) := by decide +kernel
set_option maxRecDepth 20000 in
theorem ggX8_count_X8_held : GoodIn wsX8_count wsX8_held := goodIn_r _ [8, 1, 9, 10, 11, 7, 12, 73, 74, 75, 76, 77, 78, 79, 80, 81, 82, 83, 84, 85] (by decide +kernel) (by decide +kernel)
set_option maxRecDepth 20000 in
theorem gX8_count_X8_held : GoodIn wsX8_count (wsV RX8 48 RX8 yX8_held wsX8_held) := goodIn_app (goodIn_of _ (by decide +kernel)) ggX8_count_X8_held
set_option maxRecDepth 20000 in
theorem ggX8_count_X8_drawn : GoodIn wsX8_count wsX8_drawn := goodIn_r _ [16, 1, 17, 18, 19, 7, 20, 9, 10, 11, 12, 73, 74, 75, 76, 77, 78, 79, 80, 81, 82, 83, 84, 85] (by decide +kernel) (by decide +kernel)
set_option maxRecDepth 20000 in
theorem gX8_count_X8_drawn : GoodIn wsX8_count (wsV RX8 102 RX8 yX8_drawn wsX8_drawn) := goodIn_app (goodIn_of _ (by decide +kernel)) ggX8_count_X8_drawn
set_option maxRecDepth 20000 in
theorem ggX8_count_X8_pairs : GoodIn wsX8_count wsX8_pairs := goodIn_r _ [24, 1, 25, 26, 27, 7, 28, 29, 30, 31, 32, 9, 10, 11, 12, 33, 34, 35, 36, 37, 38, 39, 40, 41, 42, 43, 44, 45, 46, 47, 48, 49, 50, 51, 52, 53, 54, 55, 56, 17, 18, 19, 20, 73, 74, 75, 76, 77, 78, 79, 80, 81, 82, 83, 84, 85] (by decide +kernel) (by decide +kernel)
set_option maxRecDepth 20000 in
theorem gX8_count_X8_pairs : GoodIn wsX8_count (wsV RX8 190 RX8 yX8_pairs wsX8_pairs) := goodIn_app (goodIn_of _ (by decide +kernel)) ggX8_count_X8_pairs
set_option maxRecDepth 20000 in
theorem ggX8_count_X8_inRings : GoodIn wsX8_count wsX8_inRings := goodIn_r _ [60, 1, 61, 62, 63, 7, 64, 65, 66, 67, 68, 9, 10, 11, 12, 69, 70, 71, 72, 41, 42, 43, 44, 45, 46, 47, 48, 49, 50, 51, 52, 33, 34, 35, 36, 37, 38, 39, 40, 73, 74, 75, 76, 77, 78, 79, 80, 81, 82, 83, 84, 85] (by decide +kernel) (by decide +kernel)
set_option maxRecDepth 20000 in
theorem gX8_count_X8_inRings : GoodIn wsX8_count (wsV RX8 193 RX8 yX8_inRings wsX8_inRings) := goodIn_app (goodIn_of _ (by decide +kernel)) ggX8_count_X8_inRings
theorem dX8_count_0 : decode cX8_count 0 = .ok (.iload_n 1, 1) := by decide +kernel
theorem dX8_count_1 : decode cX8_count 1 = .ok (.tableswitch 126 0 12 #[67, 67, 74, 79, 86, 91, 91, 99, 104, 104, 104, 116, 121], 67) := by decide +kernel
theorem dX8_count_68 : decode cX8_count 68 = .ok (.aload_n 0, 1) := by decide +kernel
theorem dX8_count_69 : decode cX8_count 69 = .ok (.getfield 7, 3) := by decide +kernel
theorem dX8_count_72 : decode cX8_count 72 = .ok (.iload_n 1, 1) := by decide +kernel
theorem dX8_count_73 : decode cX8_count 73 = .ok (.iaload, 1) := by decide +kernel
theorem dX8_count_74 : decode cX8_count 74 = .ok (.ireturn, 1) := by decide +kernel
theorem dX8_count_75 : decode cX8_count 75 = .ok (.aload_n 0, 1) := by decide +kernel
theorem dX8_count_76 : decode cX8_count 76 = .ok (.invokevirtual 48, 3) := by decide +kernel
theorem dX8_count_79 : decode cX8_count 79 = .ok (.ireturn, 1) := by decide +kernel
theorem dX8_count_80 : decode cX8_count 80 = .ok (.aload_n 0, 1) := by decide +kernel
theorem dX8_count_81 : decode cX8_count 81 = .ok (.getfield 7, 3) := by decide +kernel
theorem dX8_count_84 : decode cX8_count 84 = .ok (.iconst 2, 1) := by decide +kernel
theorem dX8_count_85 : decode cX8_count 85 = .ok (.iaload, 1) := by decide +kernel
theorem dX8_count_86 : decode cX8_count 86 = .ok (.ireturn, 1) := by decide +kernel
theorem dX8_count_87 : decode cX8_count 87 = .ok (.aload_n 0, 1) := by decide +kernel
theorem dX8_count_88 : decode cX8_count 88 = .ok (.invokevirtual 102, 3) := by decide +kernel
theorem dX8_count_91 : decode cX8_count 91 = .ok (.ireturn, 1) := by decide +kernel
theorem dX8_count_92 : decode cX8_count 92 = .ok (.aload_n 0, 1) := by decide +kernel
theorem dX8_count_93 : decode cX8_count 93 = .ok (.iload_n 1, 1) := by decide +kernel
theorem dX8_count_94 : decode cX8_count 94 = .ok (.iconst 4, 1) := by decide +kernel
theorem dX8_count_95 : decode cX8_count 95 = .ok (.isub, 1) := by decide +kernel
theorem dX8_count_96 : decode cX8_count 96 = .ok (.invokevirtual 190, 3) := by decide +kernel
theorem dX8_count_99 : decode cX8_count 99 = .ok (.ireturn, 1) := by decide +kernel
theorem dX8_count_100 : decode cX8_count 100 = .ok (.aload_n 0, 1) := by decide +kernel
theorem dX8_count_101 : decode cX8_count 101 = .ok (.invokevirtual 193, 3) := by decide +kernel
theorem dX8_count_104 : decode cX8_count 104 = .ok (.ireturn, 1) := by decide +kernel
theorem dX8_count_105 : decode cX8_count 105 = .ok (.aload_n 0, 1) := by decide +kernel
theorem dX8_count_106 : decode cX8_count 106 = .ok (.getfield 7, 3) := by decide +kernel
theorem dX8_count_109 : decode cX8_count 109 = .ok (.iconst 3, 1) := by decide +kernel
theorem dX8_count_110 : decode cX8_count 110 = .ok (.iload_n 1, 1) := by decide +kernel
theorem dX8_count_111 : decode cX8_count 111 = .ok (.iadd, 1) := by decide +kernel
theorem dX8_count_112 : decode cX8_count 112 = .ok (.bipush 8, 2) := by decide +kernel
theorem dX8_count_114 : decode cX8_count 114 = .ok (.isub, 1) := by decide +kernel
theorem dX8_count_115 : decode cX8_count 115 = .ok (.iaload, 1) := by decide +kernel
theorem dX8_count_116 : decode cX8_count 116 = .ok (.ireturn, 1) := by decide +kernel
theorem dX8_count_117 : decode cX8_count 117 = .ok (.aload_n 0, 1) := by decide +kernel
theorem dX8_count_118 : decode cX8_count 118 = .ok (.getfield 36, 3) := by decide +kernel
theorem dX8_count_121 : decode cX8_count 121 = .ok (.ireturn, 1) := by decide +kernel
theorem dX8_count_122 : decode cX8_count 122 = .ok (.aload_n 0, 1) := by decide +kernel
theorem dX8_count_123 : decode cX8_count 123 = .ok (.getfield 144, 3) := by decide +kernel
theorem dX8_count_126 : decode cX8_count 126 = .ok (.ireturn, 1) := by decide +kernel
theorem dX8_count_127 : decode cX8_count 127 = .ok (.bipush (-2), 2) := by decide +kernel
theorem dX8_count_129 : decode cX8_count 129 = .ok (.ireturn, 1) := by decide +kernel
theorem dJ9_max_7cf53_0 : decode cJ9_max_7cf53 0 = .ok (.iload_n 0, 1) := by decide +kernel
theorem dJ9_max_7cf53_1 : decode cJ9_max_7cf53 1 = .ok (.iload_n 1, 1) := by decide +kernel
theorem dJ9_max_7cf53_2 : decode cJ9_max_7cf53 2 = .ok (.if_icmp .lt 7, 3) := by decide +kernel
theorem dJ9_max_7cf53_5 : decode cJ9_max_7cf53 5 = .ok (.iload_n 0, 1) := by decide +kernel
theorem dJ9_max_7cf53_6 : decode cJ9_max_7cf53 6 = .ok (.goto 4, 3) := by decide +kernel
theorem dJ9_max_7cf53_9 : decode cJ9_max_7cf53 9 = .ok (.iload_n 1, 1) := by decide +kernel
theorem dJ9_max_7cf53_10 : decode cJ9_max_7cf53 10 = .ok (.ireturn, 1) := by decide +kernel
abbrev vwCl : List vw_C := [(RX0, TX0, 2), (RX1, TX1, 2), (RX2, TX2, 9), (RX3, TX3, 7), (RX4, TX4, 4), (RX5, TX5, 2), (RX6, TX6, 8), (RX7, TX7, 7), (RX8, TX8, 13)]
