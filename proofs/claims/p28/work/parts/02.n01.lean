theorem dX3_namesOnlyKnown_0 : decode cX3_namesOnlyKnown 0 = .ok (.iconst 0, 1) := by decide +kernel
theorem dX3_namesOnlyKnown_1 : decode cX3_namesOnlyKnown 1 = .ok (.istore_n 2, 1) := by decide +kernel
theorem dX3_namesOnlyKnown_2 : decode cX3_namesOnlyKnown 2 = .ok (.iload_n 2, 1) := by decide +kernel
theorem dX3_namesOnlyKnown_3 : decode cX3_namesOnlyKnown 3 = .ok (.aload_n 0, 1) := by decide +kernel
theorem dX3_namesOnlyKnown_4 : decode cX3_namesOnlyKnown 4 = .ok (.getfield 32, 3) := by decide +kernel
theorem dX3_namesOnlyKnown_7 : decode cX3_namesOnlyKnown 7 = .ok (.if_icmp .ge 62, 3) := by decide +kernel
theorem dX3_namesOnlyKnown_10 : decode cX3_namesOnlyKnown 10 = .ok (.aload_n 1, 1) := by decide +kernel
theorem dX3_namesOnlyKnown_11 : decode cX3_namesOnlyKnown 11 = .ok (.aload_n 0, 1) := by decide +kernel
theorem dX3_namesOnlyKnown_12 : decode cX3_namesOnlyKnown 12 = .ok (.getfield 15, 3) := by decide +kernel
theorem dX3_namesOnlyKnown_15 : decode cX3_namesOnlyKnown 15 = .ok (.iload_n 2, 1) := by decide +kernel
theorem dX3_namesOnlyKnown_16 : decode cX3_namesOnlyKnown 16 = .ok (.iaload, 1) := by decide +kernel
theorem dX3_namesOnlyKnown_17 : decode cX3_namesOnlyKnown 17 = .ok (.invokevirtual 49, 3) := by decide +kernel
theorem dX3_namesOnlyKnown_20 : decode cX3_namesOnlyKnown 20 = .ok (.ifCond .ne 5, 3) := by decide +kernel
theorem dX3_namesOnlyKnown_23 : decode cX3_namesOnlyKnown 23 = .ok (.iconst 0, 1) := by decide +kernel
theorem dX3_namesOnlyKnown_24 : decode cX3_namesOnlyKnown 24 = .ok (.ireturn, 1) := by decide +kernel
theorem dX3_namesOnlyKnown_25 : decode cX3_namesOnlyKnown 25 = .ok (.iconst 0, 1) := by decide +kernel
theorem dX3_namesOnlyKnown_26 : decode cX3_namesOnlyKnown 26 = .ok (.istore_n 3, 1) := by decide +kernel
theorem dX3_namesOnlyKnown_27 : decode cX3_namesOnlyKnown 27 = .ok (.iload_n 3, 1) := by decide +kernel
theorem dX3_namesOnlyKnown_28 : decode cX3_namesOnlyKnown 28 = .ok (.aload_n 0, 1) := by decide +kernel
theorem dX3_namesOnlyKnown_29 : decode cX3_namesOnlyKnown 29 = .ok (.getfield 19, 3) := by decide +kernel
theorem dX3_namesOnlyKnown_32 : decode cX3_namesOnlyKnown 32 = .ok (.iload_n 2, 1) := by decide +kernel
theorem dX3_namesOnlyKnown_33 : decode cX3_namesOnlyKnown 33 = .ok (.iaload, 1) := by decide +kernel
theorem dX3_namesOnlyKnown_34 : decode cX3_namesOnlyKnown 34 = .ok (.if_icmp .ge 29, 3) := by decide +kernel
theorem dX3_namesOnlyKnown_37 : decode cX3_namesOnlyKnown 37 = .ok (.aload_n 1, 1) := by decide +kernel
theorem dX3_namesOnlyKnown_38 : decode cX3_namesOnlyKnown 38 = .ok (.aload_n 0, 1) := by decide +kernel
theorem dX3_namesOnlyKnown_39 : decode cX3_namesOnlyKnown 39 = .ok (.getfield 22, 3) := by decide +kernel
theorem dX3_namesOnlyKnown_42 : decode cX3_namesOnlyKnown 42 = .ok (.iload_n 2, 1) := by decide +kernel
theorem dX3_namesOnlyKnown_43 : decode cX3_namesOnlyKnown 43 = .ok (.bipush 6, 2) := by decide +kernel
theorem dX3_namesOnlyKnown_45 : decode cX3_namesOnlyKnown 45 = .ok (.imul, 1) := by decide +kernel
theorem dX3_namesOnlyKnown_46 : decode cX3_namesOnlyKnown 46 = .ok (.iload_n 3, 1) := by decide +kernel
theorem dX3_namesOnlyKnown_47 : decode cX3_namesOnlyKnown 47 = .ok (.iadd, 1) := by decide +kernel
theorem dX3_namesOnlyKnown_48 : decode cX3_namesOnlyKnown 48 = .ok (.iaload, 1) := by decide +kernel
theorem dX3_namesOnlyKnown_49 : decode cX3_namesOnlyKnown 49 = .ok (.invokevirtual 55, 3) := by decide +kernel
theorem dX3_namesOnlyKnown_52 : decode cX3_namesOnlyKnown 52 = .ok (.ifCond .ne 5, 3) := by decide +kernel
theorem dX3_namesOnlyKnown_55 : decode cX3_namesOnlyKnown 55 = .ok (.iconst 0, 1) := by decide +kernel
theorem dX3_namesOnlyKnown_56 : decode cX3_namesOnlyKnown 56 = .ok (.ireturn, 1) := by decide +kernel
theorem dX3_namesOnlyKnown_57 : decode cX3_namesOnlyKnown 57 = .ok (.iinc 3 1, 3) := by decide +kernel
theorem dX3_namesOnlyKnown_60 : decode cX3_namesOnlyKnown 60 = .ok (.goto (-33), 3) := by decide +kernel
theorem dX3_namesOnlyKnown_63 : decode cX3_namesOnlyKnown 63 = .ok (.iinc 2 1, 3) := by decide +kernel
theorem dX3_namesOnlyKnown_66 : decode cX3_namesOnlyKnown 66 = .ok (.goto (-64), 3) := by decide +kernel
theorem dX3_namesOnlyKnown_69 : decode cX3_namesOnlyKnown 69 = .ok (.iconst 1, 1) := by decide +kernel
theorem dX3_namesOnlyKnown_70 : decode cX3_namesOnlyKnown 70 = .ok (.ireturn, 1) := by decide +kernel
theorem dX3_hasFlatTwiceInList_0 : decode cX3_hasFlatTwiceInList 0 = .ok (.iconst 0, 1) := by decide +kernel
theorem dX3_hasFlatTwiceInList_1 : decode cX3_hasFlatTwiceInList 1 = .ok (.istore_n 1, 1) := by decide +kernel
theorem dX3_hasFlatTwiceInList_2 : decode cX3_hasFlatTwiceInList 2 = .ok (.iload_n 1, 1) := by decide +kernel
theorem dX3_hasFlatTwiceInList_3 : decode cX3_hasFlatTwiceInList 3 = .ok (.aload_n 0, 1) := by decide +kernel
theorem dX3_hasFlatTwiceInList_4 : decode cX3_hasFlatTwiceInList 4 = .ok (.getfield 32, 3) := by decide +kernel
theorem dX3_hasFlatTwiceInList_7 : decode cX3_hasFlatTwiceInList 7 = .ok (.if_icmp .ge 58, 3) := by decide +kernel
theorem dX3_hasFlatTwiceInList_10 : decode cX3_hasFlatTwiceInList 10 = .ok (.iconst 0, 1) := by decide +kernel
theorem dX3_hasFlatTwiceInList_11 : decode cX3_hasFlatTwiceInList 11 = .ok (.istore_n 2, 1) := by decide +kernel
theorem dX3_hasFlatTwiceInList_12 : decode cX3_hasFlatTwiceInList 12 = .ok (.iconst 0, 1) := by decide +kernel
theorem dX3_hasFlatTwiceInList_13 : decode cX3_hasFlatTwiceInList 13 = .ok (.istore_n 3, 1) := by decide +kernel
theorem dX3_hasFlatTwiceInList_14 : decode cX3_hasFlatTwiceInList 14 = .ok (.iload_n 3, 1) := by decide +kernel
theorem dX3_hasFlatTwiceInList_15 : decode cX3_hasFlatTwiceInList 15 = .ok (.aload_n 0, 1) := by decide +kernel
theorem dX3_hasFlatTwiceInList_16 : decode cX3_hasFlatTwiceInList 16 = .ok (.getfield 19, 3) := by decide +kernel
theorem dX3_hasFlatTwiceInList_19 : decode cX3_hasFlatTwiceInList 19 = .ok (.iload_n 1, 1) := by decide +kernel
theorem dX3_hasFlatTwiceInList_20 : decode cX3_hasFlatTwiceInList 20 = .ok (.iaload, 1) := by decide +kernel
theorem dX3_hasFlatTwiceInList_21 : decode cX3_hasFlatTwiceInList 21 = .ok (.if_icmp .ge 38, 3) := by decide +kernel
theorem dX3_hasFlatTwiceInList_24 : decode cX3_hasFlatTwiceInList 24 = .ok (.iconst 1, 1) := by decide +kernel
theorem dX3_hasFlatTwiceInList_25 : decode cX3_hasFlatTwiceInList 25 = .ok (.aload_n 0, 1) := by decide +kernel
theorem dX3_hasFlatTwiceInList_26 : decode cX3_hasFlatTwiceInList 26 = .ok (.getfield 22, 3) := by decide +kernel
theorem dX3_hasFlatTwiceInList_29 : decode cX3_hasFlatTwiceInList 29 = .ok (.iload_n 1, 1) := by decide +kernel
theorem dX3_hasFlatTwiceInList_30 : decode cX3_hasFlatTwiceInList 30 = .ok (.bipush 6, 2) := by decide +kernel
theorem dX3_hasFlatTwiceInList_32 : decode cX3_hasFlatTwiceInList 32 = .ok (.imul, 1) := by decide +kernel
theorem dX3_hasFlatTwiceInList_33 : decode cX3_hasFlatTwiceInList 33 = .ok (.iload_n 3, 1) := by decide +kernel
theorem dX3_hasFlatTwiceInList_34 : decode cX3_hasFlatTwiceInList 34 = .ok (.iadd, 1) := by decide +kernel
theorem dX3_hasFlatTwiceInList_35 : decode cX3_hasFlatTwiceInList 35 = .ok (.iaload, 1) := by decide +kernel
theorem dX3_hasFlatTwiceInList_36 : decode cX3_hasFlatTwiceInList 36 = .ok (.ishl, 1) := by decide +kernel
theorem dX3_hasFlatTwiceInList_37 : decode cX3_hasFlatTwiceInList 37 = .ok (.istore 4, 2) := by decide +kernel
theorem dX3_hasFlatTwiceInList_39 : decode cX3_hasFlatTwiceInList 39 = .ok (.iload_n 2, 1) := by decide +kernel
theorem dX3_hasFlatTwiceInList_40 : decode cX3_hasFlatTwiceInList 40 = .ok (.iload 4, 2) := by decide +kernel
theorem dX3_hasFlatTwiceInList_42 : decode cX3_hasFlatTwiceInList 42 = .ok (.iand, 1) := by decide +kernel
theorem dX3_hasFlatTwiceInList_43 : decode cX3_hasFlatTwiceInList 43 = .ok (.ifCond .eq 5, 3) := by decide +kernel
theorem dX3_hasFlatTwiceInList_46 : decode cX3_hasFlatTwiceInList 46 = .ok (.iconst 1, 1) := by decide +kernel
theorem dX3_hasFlatTwiceInList_47 : decode cX3_hasFlatTwiceInList 47 = .ok (.ireturn, 1) := by decide +kernel
theorem dX3_hasFlatTwiceInList_48 : decode cX3_hasFlatTwiceInList 48 = .ok (.iload_n 2, 1) := by decide +kernel
theorem dX3_hasFlatTwiceInList_49 : decode cX3_hasFlatTwiceInList 49 = .ok (.iload 4, 2) := by decide +kernel
theorem dX3_hasFlatTwiceInList_51 : decode cX3_hasFlatTwiceInList 51 = .ok (.ior, 1) := by decide +kernel
theorem dX3_hasFlatTwiceInList_52 : decode cX3_hasFlatTwiceInList 52 = .ok (.istore_n 2, 1) := by decide +kernel
theorem dX3_hasFlatTwiceInList_53 : decode cX3_hasFlatTwiceInList 53 = .ok (.iinc 3 1, 3) := by decide +kernel
theorem dX3_hasFlatTwiceInList_56 : decode cX3_hasFlatTwiceInList 56 = .ok (.goto (-42), 3) := by decide +kernel
theorem dX3_hasFlatTwiceInList_59 : decode cX3_hasFlatTwiceInList 59 = .ok (.iinc 1 1, 3) := by decide +kernel
theorem dX3_hasFlatTwiceInList_62 : decode cX3_hasFlatTwiceInList 62 = .ok (.goto (-60), 3) := by decide +kernel
theorem dX3_hasFlatTwiceInList_65 : decode cX3_hasFlatTwiceInList 65 = .ok (.iconst 0, 1) := by decide +kernel
theorem dX3_hasFlatTwiceInList_66 : decode cX3_hasFlatTwiceInList 66 = .ok (.ireturn, 1) := by decide +kernel
set_option maxRecDepth 20000 in
theorem ggX3_layLists_X6_hasHousehold : GoodIn wsX3_layLists wsX6_hasHousehold := goodIn_r _ [11, 12, 27, 28, 29, 30, 31, 32, 33, 34] (by decide +kernel) (by decide +kernel)
set_option maxRecDepth 20000 in
theorem gX3_layLists_X6_hasHousehold : GoodIn wsX3_layLists (wsV RX3 49 RX6 yX6_hasHousehold wsX6_hasHousehold) := goodIn_app (goodIn_of _ (by decide +kernel)) ggX3_layLists_X6_hasHousehold
set_option maxRecDepth 20000 in
theorem ggX3_layLists_X2_addWish : GoodIn wsX3_layLists wsX2_addWish := goodIn_r _ [17, 18, 19, 35, 36, 37, 38, 39, 40, 41, 42, 43] (by decide +kernel) (by decide +kernel)
set_option maxRecDepth 20000 in
theorem gX3_layLists_X2_addWish : GoodIn wsX3_layLists (wsV RX3 67 RX2 yX2_addWish wsX2_addWish) := goodIn_app (goodIn_of _ (by decide +kernel)) ggX3_layLists_X2_addWish
theorem dX3_layLists_0 : decode cX3_layLists 0 = .ok (.iconst 0, 1) := by decide +kernel
theorem dX3_layLists_1 : decode cX3_layLists 1 = .ok (.istore_n 2, 1) := by decide +kernel
theorem dX3_layLists_2 : decode cX3_layLists 2 = .ok (.iload_n 2, 1) := by decide +kernel
theorem dX3_layLists_3 : decode cX3_layLists 3 = .ok (.aload_n 0, 1) := by decide +kernel
theorem dX3_layLists_4 : decode cX3_layLists 4 = .ok (.getfield 32, 3) := by decide +kernel
theorem dX3_layLists_7 : decode cX3_layLists 7 = .ok (.if_icmp .ge 78, 3) := by decide +kernel
theorem dX3_layLists_10 : decode cX3_layLists 10 = .ok (.aload_n 0, 1) := by decide +kernel
theorem dX3_layLists_11 : decode cX3_layLists 11 = .ok (.getfield 15, 3) := by decide +kernel
theorem dX3_layLists_14 : decode cX3_layLists 14 = .ok (.iload_n 2, 1) := by decide +kernel
theorem dX3_layLists_15 : decode cX3_layLists 15 = .ok (.iaload, 1) := by decide +kernel
theorem dX3_layLists_16 : decode cX3_layLists 16 = .ok (.istore_n 3, 1) := by decide +kernel
theorem dX3_layLists_17 : decode cX3_layLists 17 = .ok (.aload_n 1, 1) := by decide +kernel
theorem dX3_layLists_18 : decode cX3_layLists 18 = .ok (.iload_n 3, 1) := by decide +kernel
theorem dX3_layLists_19 : decode cX3_layLists 19 = .ok (.invokevirtual 49, 3) := by decide +kernel
theorem dX3_layLists_22 : decode cX3_layLists 22 = .ok (.ifCond .ne 6, 3) := by decide +kernel
theorem dX3_layLists_25 : decode cX3_layLists 25 = .ok (.goto 54, 3) := by decide +kernel
theorem dX3_layLists_28 : decode cX3_layLists 28 = .ok (.aload_n 1, 1) := by decide +kernel
theorem dX3_layLists_29 : decode cX3_layLists 29 = .ok (.getfield 58, 3) := by decide +kernel
theorem dX3_layLists_32 : decode cX3_layLists 32 = .ok (.iload_n 3, 1) := by decide +kernel
theorem dX3_layLists_33 : decode cX3_layLists 33 = .ok (.aaload, 1) := by decide +kernel
theorem dX3_layLists_34 : decode cX3_layLists 34 = .ok (.astore 4, 2) := by decide +kernel
theorem dX3_layLists_36 : decode cX3_layLists 36 = .ok (.aload 4, 2) := by decide +kernel
theorem dX3_layLists_38 : decode cX3_layLists 38 = .ok (.iconst 0, 1) := by decide +kernel
theorem dX3_layLists_39 : decode cX3_layLists 39 = .ok (.putfield 62, 3) := by decide +kernel
theorem dX3_layLists_42 : decode cX3_layLists 42 = .ok (.iconst 0, 1) := by decide +kernel
theorem dX3_layLists_43 : decode cX3_layLists 43 = .ok (.istore 5, 2) := by decide +kernel
theorem dX3_layLists_45 : decode cX3_layLists 45 = .ok (.iload 5, 2) := by decide +kernel
theorem dX3_layLists_47 : decode cX3_layLists 47 = .ok (.aload_n 0, 1) := by decide +kernel
theorem dX3_layLists_48 : decode cX3_layLists 48 = .ok (.getfield 19, 3) := by decide +kernel
theorem dX3_layLists_51 : decode cX3_layLists 51 = .ok (.iload_n 2, 1) := by decide +kernel
theorem dX3_layLists_52 : decode cX3_layLists 52 = .ok (.iaload, 1) := by decide +kernel
theorem dX3_layLists_53 : decode cX3_layLists 53 = .ok (.if_icmp .ge 26, 3) := by decide +kernel
theorem dX3_layLists_56 : decode cX3_layLists 56 = .ok (.aload 4, 2) := by decide +kernel
theorem dX3_layLists_58 : decode cX3_layLists 58 = .ok (.aload_n 0, 1) := by decide +kernel
theorem dX3_layLists_59 : decode cX3_layLists 59 = .ok (.getfield 22, 3) := by decide +kernel
theorem dX3_layLists_62 : decode cX3_layLists 62 = .ok (.iload_n 2, 1) := by decide +kernel
theorem dX3_layLists_63 : decode cX3_layLists 63 = .ok (.bipush 6, 2) := by decide +kernel
theorem dX3_layLists_65 : decode cX3_layLists 65 = .ok (.imul, 1) := by decide +kernel
theorem dX3_layLists_66 : decode cX3_layLists 66 = .ok (.iload 5, 2) := by decide +kernel
theorem dX3_layLists_68 : decode cX3_layLists 68 = .ok (.iadd, 1) := by decide +kernel
theorem dX3_layLists_69 : decode cX3_layLists 69 = .ok (.iaload, 1) := by decide +kernel
theorem dX3_layLists_70 : decode cX3_layLists 70 = .ok (.invokevirtual 67, 3) := by decide +kernel
theorem dX3_layLists_73 : decode cX3_layLists 73 = .ok (.iinc 5 1, 3) := by decide +kernel
theorem dX3_layLists_76 : decode cX3_layLists 76 = .ok (.goto (-31), 3) := by decide +kernel
theorem dX3_layLists_79 : decode cX3_layLists 79 = .ok (.iinc 2 1, 3) := by decide +kernel
theorem dX3_layLists_82 : decode cX3_layLists 82 = .ok (.goto (-80), 3) := by decide +kernel
theorem dX3_layLists_85 : decode cX3_layLists 85 = .ok (.return_, 1) := by decide +kernel
theorem dX4_init_0 : decode cX4_init 0 = .ok (.aload_n 0, 1) := by decide +kernel
theorem dX4_init_1 : decode cX4_init 1 = .ok (.invokespecial 3, 3) := by decide +kernel
theorem dX4_init_4 : decode cX4_init 4 = .ok (.aload_n 0, 1) := by decide +kernel
theorem dX4_init_5 : decode cX4_init 5 = .ok (.bipush 12, 2) := by decide +kernel
theorem dX4_init_7 : decode cX4_init 7 = .ok (.newarray .int, 2) := by decide +kernel
theorem dX4_init_9 : decode cX4_init 9 = .ok (.putfield 9, 3) := by decide +kernel
theorem dX4_init_12 : decode cX4_init 12 = .ok (.aload_n 0, 1) := by decide +kernel
theorem dX4_init_13 : decode cX4_init 13 = .ok (.bipush 12, 2) := by decide +kernel
theorem dX4_init_15 : decode cX4_init 15 = .ok (.newarray .int, 2) := by decide +kernel
theorem dX4_init_17 : decode cX4_init 17 = .ok (.putfield 15, 3) := by decide +kernel
theorem dX4_init_20 : decode cX4_init 20 = .ok (.aload_n 0, 1) := by decide +kernel
theorem dX4_init_21 : decode cX4_init 21 = .ok (.bipush 12, 2) := by decide +kernel
theorem dX4_init_23 : decode cX4_init 23 = .ok (.newarray .int, 2) := by decide +kernel
theorem dX4_init_25 : decode cX4_init 25 = .ok (.putfield 18, 3) := by decide +kernel
theorem dX4_init_28 : decode cX4_init 28 = .ok (.aload_n 0, 1) := by decide +kernel
theorem dX4_init_29 : decode cX4_init 29 = .ok (.bipush 12, 2) := by decide +kernel
theorem dX4_init_31 : decode cX4_init 31 = .ok (.newarray .int, 2) := by decide +kernel
theorem dX4_init_33 : decode cX4_init 33 = .ok (.putfield 21, 3) := by decide +kernel
theorem dX4_init_36 : decode cX4_init 36 = .ok (.return_, 1) := by decide +kernel
set_option maxRecDepth 20000 in
theorem ggX4_greatest_X4_canHouse : GoodIn wsX4_greatest wsX4_canHouse := goodIn_r _ [8, 9, 10, 11, 12, 13, 2, 14, 15, 16, 17, 18, 19, 20, 21, 22, 23, 24, 25, 26, 27, 28, 29, 30, 31, 32, 33, 34, 35, 36, 7, 37, 1, 38, 39, 40, 41, 42, 43, 44, 45, 46, 47, 48, 49, 50, 51, 52, 53, 54, 55, 56, 57, 58, 59, 60] (by decide +kernel) (by decide +kernel)
set_option maxRecDepth 20000 in
theorem gX4_greatest_X4_canHouse : GoodIn wsX4_greatest (wsV RX4 30 RX4 yX4_canHouse wsX4_canHouse) := goodIn_app (goodIn_of _ (by decide +kernel)) ggX4_greatest_X4_canHouse
theorem dX4_greatest_0 : decode cX4_greatest 0 = .ok (.iconst 0, 1) := by decide +kernel
theorem dX4_greatest_1 : decode cX4_greatest 1 = .ok (.istore_n 2, 1) := by decide +kernel
theorem dX4_greatest_2 : decode cX4_greatest 2 = .ok (.iload_n 2, 1) := by decide +kernel
theorem dX4_greatest_3 : decode cX4_greatest 3 = .ok (.bipush 12, 2) := by decide +kernel
theorem dX4_greatest_5 : decode cX4_greatest 5 = .ok (.if_icmp .ge 17, 3) := by decide +kernel
theorem dX4_greatest_8 : decode cX4_greatest 8 = .ok (.aload_n 0, 1) := by decide +kernel
theorem dX4_greatest_9 : decode cX4_greatest 9 = .ok (.getfield 9, 3) := by decide +kernel
theorem dX4_greatest_12 : decode cX4_greatest 12 = .ok (.iload_n 2, 1) := by decide +kernel
theorem dX4_greatest_13 : decode cX4_greatest 13 = .ok (.bipush (-5), 2) := by decide +kernel
theorem dX4_greatest_15 : decode cX4_greatest 15 = .ok (.iastore, 1) := by decide +kernel
theorem dX4_greatest_16 : decode cX4_greatest 16 = .ok (.iinc 2 1, 3) := by decide +kernel
theorem dX4_greatest_19 : decode cX4_greatest 19 = .ok (.goto (-17), 3) := by decide +kernel
theorem dX4_greatest_22 : decode cX4_greatest 22 = .ok (.iconst 0, 1) := by decide +kernel
theorem dX4_greatest_23 : decode cX4_greatest 23 = .ok (.istore_n 2, 1) := by decide +kernel
theorem dX4_greatest_24 : decode cX4_greatest 24 = .ok (.iload_n 2, 1) := by decide +kernel
theorem dX4_greatest_25 : decode cX4_greatest 25 = .ok (.bipush 12, 2) := by decide +kernel
theorem dX4_greatest_27 : decode cX4_greatest 27 = .ok (.if_icmp .ge 17, 3) := by decide +kernel
theorem dX4_greatest_30 : decode cX4_greatest 30 = .ok (.aload_n 0, 1) := by decide +kernel
theorem dX4_greatest_31 : decode cX4_greatest 31 = .ok (.getfield 15, 3) := by decide +kernel
theorem dX4_greatest_34 : decode cX4_greatest 34 = .ok (.iload_n 2, 1) := by decide +kernel
theorem dX4_greatest_35 : decode cX4_greatest 35 = .ok (.bipush (-5), 2) := by decide +kernel
theorem dX4_greatest_37 : decode cX4_greatest 37 = .ok (.iastore, 1) := by decide +kernel
theorem dX4_greatest_38 : decode cX4_greatest 38 = .ok (.iinc 2 1, 3) := by decide +kernel
theorem dX4_greatest_41 : decode cX4_greatest 41 = .ok (.goto (-17), 3) := by decide +kernel
theorem dX4_greatest_44 : decode cX4_greatest 44 = .ok (.iconst 0, 1) := by decide +kernel
theorem dX4_greatest_45 : decode cX4_greatest 45 = .ok (.istore_n 2, 1) := by decide +kernel
theorem dX4_greatest_46 : decode cX4_greatest 46 = .ok (.iconst 0, 1) := by decide +kernel
theorem dX4_greatest_47 : decode cX4_greatest 47 = .ok (.istore_n 3, 1) := by decide +kernel
theorem dX4_greatest_48 : decode cX4_greatest 48 = .ok (.iload_n 3, 1) := by decide +kernel
theorem dX4_greatest_49 : decode cX4_greatest 49 = .ok (.aload_n 1, 1) := by decide +kernel
theorem dX4_greatest_50 : decode cX4_greatest 50 = .ok (.getfield 24, 3) := by decide +kernel
theorem dX4_greatest_53 : decode cX4_greatest 53 = .ok (.if_icmp .ge 21, 3) := by decide +kernel
theorem dX4_greatest_56 : decode cX4_greatest 56 = .ok (.aload_n 0, 1) := by decide +kernel
theorem dX4_greatest_57 : decode cX4_greatest 57 = .ok (.iload_n 3, 1) := by decide +kernel
theorem dX4_greatest_58 : decode cX4_greatest 58 = .ok (.aload_n 1, 1) := by decide +kernel
theorem dX4_greatest_59 : decode cX4_greatest 59 = .ok (.invokevirtual 30, 3) := by decide +kernel
theorem dX4_greatest_62 : decode cX4_greatest 62 = .ok (.ifCond .eq 6, 3) := by decide +kernel
theorem dX4_greatest_65 : decode cX4_greatest 65 = .ok (.iinc 2 1, 3) := by decide +kernel
theorem dX4_greatest_68 : decode cX4_greatest 68 = .ok (.iinc 3 1, 3) := by decide +kernel
theorem dX4_greatest_71 : decode cX4_greatest 71 = .ok (.goto (-23), 3) := by decide +kernel
theorem dX4_greatest_74 : decode cX4_greatest 74 = .ok (.iload_n 2, 1) := by decide +kernel
theorem dX4_greatest_75 : decode cX4_greatest 75 = .ok (.ireturn, 1) := by decide +kernel
set_option maxRecDepth 20000 in
theorem ggX4_canHouse_X6_isEligible : GoodIn wsX4_canHouse wsX6_isEligible := goodIn_r _ [11, 12, 13, 14, 15, 10, 16, 17, 18, 19, 20, 21, 22, 23, 24, 25, 26, 37, 38, 39, 40, 41, 42, 43, 44, 45, 46, 47, 48, 49, 50, 51, 52, 53, 54, 55] (by decide +kernel) (by decide +kernel)
set_option maxRecDepth 20000 in
theorem gX4_canHouse_X6_isEligible : GoodIn wsX4_canHouse (wsV RX4 46 RX6 yX6_isEligible wsX6_isEligible) := goodIn_app (goodIn_of _ (by decide +kernel)) ggX4_canHouse_X6_isEligible
set_option maxRecDepth 20000 in
theorem ggX4_canHouse_X4_handOn : GoodIn wsX4_canHouse wsX4_handOn := goodIn_r _ [31, 1, 32, 6, 33, 34, 35, 36] (by decide +kernel) (by decide +kernel)
set_option maxRecDepth 20000 in
theorem gX4_canHouse_X4_handOn : GoodIn wsX4_canHouse (wsV RX4 50 RX4 yX4_handOn wsX4_handOn) := goodIn_app (goodIn_of _ (by decide +kernel)) ggX4_canHouse_X4_handOn
theorem dX4_canHouse_0 : decode cX4_canHouse 0 = .ok (.iconst 0, 1) := by decide +kernel
theorem dX4_canHouse_1 : decode cX4_canHouse 1 = .ok (.istore_n 3, 1) := by decide +kernel
theorem dX4_canHouse_2 : decode cX4_canHouse 2 = .ok (.iload_n 3, 1) := by decide +kernel
theorem dX4_canHouse_3 : decode cX4_canHouse 3 = .ok (.bipush 12, 2) := by decide +kernel
theorem dX4_canHouse_5 : decode cX4_canHouse 5 = .ok (.if_icmp .ge 17, 3) := by decide +kernel
theorem dX4_canHouse_8 : decode cX4_canHouse 8 = .ok (.aload_n 0, 1) := by decide +kernel
theorem dX4_canHouse_9 : decode cX4_canHouse 9 = .ok (.getfield 18, 3) := by decide +kernel
theorem dX4_canHouse_12 : decode cX4_canHouse 12 = .ok (.iload_n 3, 1) := by decide +kernel
theorem dX4_canHouse_13 : decode cX4_canHouse 13 = .ok (.bipush (-5), 2) := by decide +kernel
theorem dX4_canHouse_15 : decode cX4_canHouse 15 = .ok (.iastore, 1) := by decide +kernel
theorem dX4_canHouse_16 : decode cX4_canHouse 16 = .ok (.iinc 3 1, 3) := by decide +kernel
theorem dX4_canHouse_19 : decode cX4_canHouse 19 = .ok (.goto (-17), 3) := by decide +kernel
theorem dX4_canHouse_22 : decode cX4_canHouse 22 = .ok (.aload_n 0, 1) := by decide +kernel
theorem dX4_canHouse_23 : decode cX4_canHouse 23 = .ok (.getfield 21, 3) := by decide +kernel
theorem dX4_canHouse_26 : decode cX4_canHouse 26 = .ok (.iconst 0, 1) := by decide +kernel
theorem dX4_canHouse_27 : decode cX4_canHouse 27 = .ok (.iload_n 1, 1) := by decide +kernel
theorem dX4_canHouse_28 : decode cX4_canHouse 28 = .ok (.iastore, 1) := by decide +kernel
theorem dX4_canHouse_29 : decode cX4_canHouse 29 = .ok (.iconst 1, 1) := by decide +kernel
theorem dX4_canHouse_30 : decode cX4_canHouse 30 = .ok (.istore_n 3, 1) := by decide +kernel
theorem dX4_canHouse_31 : decode cX4_canHouse 31 = .ok (.iconst 0, 1) := by decide +kernel
theorem dX4_canHouse_32 : decode cX4_canHouse 32 = .ok (.istore 4, 2) := by decide +kernel
theorem dX4_canHouse_34 : decode cX4_canHouse 34 = .ok (.iload 4, 2) := by decide +kernel
theorem dX4_canHouse_36 : decode cX4_canHouse 36 = .ok (.iload_n 3, 1) := by decide +kernel
theorem dX4_canHouse_37 : decode cX4_canHouse 37 = .ok (.if_icmp .ge 133, 3) := by decide +kernel
theorem dX4_canHouse_40 : decode cX4_canHouse 40 = .ok (.aload_n 0, 1) := by decide +kernel
theorem dX4_canHouse_41 : decode cX4_canHouse 41 = .ok (.getfield 21, 3) := by decide +kernel
theorem dX4_canHouse_44 : decode cX4_canHouse 44 = .ok (.iload 4, 2) := by decide +kernel
theorem dX4_canHouse_46 : decode cX4_canHouse 46 = .ok (.iaload, 1) := by decide +kernel
theorem dX4_canHouse_47 : decode cX4_canHouse 47 = .ok (.istore 5, 2) := by decide +kernel
theorem dX4_canHouse_49 : decode cX4_canHouse 49 = .ok (.aload_n 2, 1) := by decide +kernel
theorem dX4_canHouse_50 : decode cX4_canHouse 50 = .ok (.getfield 34, 3) := by decide +kernel
theorem dX4_canHouse_53 : decode cX4_canHouse 53 = .ok (.iload 5, 2) := by decide +kernel
theorem dX4_canHouse_55 : decode cX4_canHouse 55 = .ok (.aaload, 1) := by decide +kernel
theorem dX4_canHouse_56 : decode cX4_canHouse 56 = .ok (.astore 6, 2) := by decide +kernel
theorem dX4_canHouse_58 : decode cX4_canHouse 58 = .ok (.iconst 0, 1) := by decide +kernel
theorem dX4_canHouse_59 : decode cX4_canHouse 59 = .ok (.istore 7, 2) := by decide +kernel
theorem dX4_canHouse_61 : decode cX4_canHouse 61 = .ok (.iload 7, 2) := by decide +kernel
theorem dX4_canHouse_63 : decode cX4_canHouse 63 = .ok (.aload 6, 2) := by decide +kernel
theorem dX4_canHouse_65 : decode cX4_canHouse 65 = .ok (.getfield 38, 3) := by decide +kernel
theorem dX4_canHouse_68 : decode cX4_canHouse 68 = .ok (.if_icmp .ge 96, 3) := by decide +kernel
theorem dX4_canHouse_71 : decode cX4_canHouse 71 = .ok (.aload 6, 2) := by decide +kernel
theorem dX4_canHouse_73 : decode cX4_canHouse 73 = .ok (.getfield 43, 3) := by decide +kernel
theorem dX4_canHouse_76 : decode cX4_canHouse 76 = .ok (.iload 7, 2) := by decide +kernel
theorem dX4_canHouse_78 : decode cX4_canHouse 78 = .ok (.iaload, 1) := by decide +kernel
theorem dX4_canHouse_79 : decode cX4_canHouse 79 = .ok (.istore 8, 2) := by decide +kernel
theorem dX4_canHouse_81 : decode cX4_canHouse 81 = .ok (.aload_n 2, 1) := by decide +kernel
theorem dX4_canHouse_82 : decode cX4_canHouse 82 = .ok (.aload 6, 2) := by decide +kernel
theorem dX4_canHouse_84 : decode cX4_canHouse 84 = .ok (.iload 8, 2) := by decide +kernel
theorem dX4_canHouse_86 : decode cX4_canHouse 86 = .ok (.invokevirtual 46, 3) := by decide +kernel
theorem dX4_canHouse_89 : decode cX4_canHouse 89 = .ok (.ifCond .eq 69, 3) := by decide +kernel
theorem dX4_canHouse_92 : decode cX4_canHouse 92 = .ok (.aload_n 0, 1) := by decide +kernel
theorem dX4_canHouse_93 : decode cX4_canHouse 93 = .ok (.getfield 18, 3) := by decide +kernel
theorem dX4_canHouse_96 : decode cX4_canHouse 96 = .ok (.iload 8, 2) := by decide +kernel
theorem dX4_canHouse_98 : decode cX4_canHouse 98 = .ok (.iaload, 1) := by decide +kernel
theorem dX4_canHouse_99 : decode cX4_canHouse 99 = .ok (.bipush (-5), 2) := by decide +kernel
theorem dX4_canHouse_101 : decode cX4_canHouse 101 = .ok (.if_icmp .eq 6, 3) := by decide +kernel
theorem dX4_canHouse_104 : decode cX4_canHouse 104 = .ok (.goto 54, 3) := by decide +kernel
theorem dX4_canHouse_107 : decode cX4_canHouse 107 = .ok (.aload_n 0, 1) := by decide +kernel
theorem dX4_canHouse_108 : decode cX4_canHouse 108 = .ok (.getfield 18, 3) := by decide +kernel
theorem dX4_canHouse_111 : decode cX4_canHouse 111 = .ok (.iload 8, 2) := by decide +kernel
theorem dX4_canHouse_113 : decode cX4_canHouse 113 = .ok (.iload 5, 2) := by decide +kernel
theorem dX4_canHouse_115 : decode cX4_canHouse 115 = .ok (.iastore, 1) := by decide +kernel
theorem dX4_canHouse_116 : decode cX4_canHouse 116 = .ok (.aload_n 0, 1) := by decide +kernel
theorem dX4_canHouse_117 : decode cX4_canHouse 117 = .ok (.getfield 15, 3) := by decide +kernel
theorem dX4_canHouse_120 : decode cX4_canHouse 120 = .ok (.iload 8, 2) := by decide +kernel
theorem dX4_canHouse_122 : decode cX4_canHouse 122 = .ok (.iaload, 1) := by decide +kernel
theorem dX4_canHouse_123 : decode cX4_canHouse 123 = .ok (.bipush (-5), 2) := by decide +kernel
theorem dX4_canHouse_125 : decode cX4_canHouse 125 = .ok (.if_icmp .ne 11, 3) := by decide +kernel
theorem dX4_canHouse_128 : decode cX4_canHouse 128 = .ok (.aload_n 0, 1) := by decide +kernel
theorem dX4_canHouse_129 : decode cX4_canHouse 129 = .ok (.iload 8, 2) := by decide +kernel
theorem dX4_canHouse_131 : decode cX4_canHouse 131 = .ok (.invokevirtual 50, 3) := by decide +kernel
theorem dX4_canHouse_134 : decode cX4_canHouse 134 = .ok (.iconst 1, 1) := by decide +kernel
theorem dX4_canHouse_135 : decode cX4_canHouse 135 = .ok (.ireturn, 1) := by decide +kernel
theorem dX4_canHouse_136 : decode cX4_canHouse 136 = .ok (.iload_n 3, 1) := by decide +kernel
theorem dX4_canHouse_137 : decode cX4_canHouse 137 = .ok (.bipush 12, 2) := by decide +kernel
theorem dX4_canHouse_139 : decode cX4_canHouse 139 = .ok (.if_icmp .ge 19, 3) := by decide +kernel
theorem dX4_canHouse_142 : decode cX4_canHouse 142 = .ok (.aload_n 0, 1) := by decide +kernel
theorem dX4_canHouse_143 : decode cX4_canHouse 143 = .ok (.getfield 21, 3) := by decide +kernel
theorem dX4_canHouse_146 : decode cX4_canHouse 146 = .ok (.iload_n 3, 1) := by decide +kernel
theorem dX4_canHouse_147 : decode cX4_canHouse 147 = .ok (.aload_n 0, 1) := by decide +kernel
theorem dX4_canHouse_148 : decode cX4_canHouse 148 = .ok (.getfield 15, 3) := by decide +kernel
theorem dX4_canHouse_151 : decode cX4_canHouse 151 = .ok (.iload 8, 2) := by decide +kernel
theorem dX4_canHouse_153 : decode cX4_canHouse 153 = .ok (.iaload, 1) := by decide +kernel
theorem dX4_canHouse_154 : decode cX4_canHouse 154 = .ok (.iastore, 1) := by decide +kernel
theorem dX4_canHouse_155 : decode cX4_canHouse 155 = .ok (.iinc 3 1, 3) := by decide +kernel
theorem dX4_canHouse_158 : decode cX4_canHouse 158 = .ok (.iinc 7 1, 3) := by decide +kernel
theorem dX4_canHouse_161 : decode cX4_canHouse 161 = .ok (.goto (-100), 3) := by decide +kernel
theorem dX4_canHouse_164 : decode cX4_canHouse 164 = .ok (.iinc 4 1, 3) := by decide +kernel
theorem dX4_canHouse_167 : decode cX4_canHouse 167 = .ok (.goto (-133), 3) := by decide +kernel
theorem dX4_canHouse_170 : decode cX4_canHouse 170 = .ok (.iconst 0, 1) := by decide +kernel
theorem dX4_canHouse_171 : decode cX4_canHouse 171 = .ok (.ireturn, 1) := by decide +kernel
theorem dX4_handOn_0 : decode cX4_handOn 0 = .ok (.iload_n 1, 1) := by decide +kernel
theorem dX4_handOn_1 : decode cX4_handOn 1 = .ok (.istore_n 2, 1) := by decide +kernel
theorem dX4_handOn_2 : decode cX4_handOn 2 = .ok (.iconst 0, 1) := by decide +kernel
theorem dX4_handOn_3 : decode cX4_handOn 3 = .ok (.istore_n 3, 1) := by decide +kernel
theorem dX4_handOn_4 : decode cX4_handOn 4 = .ok (.iload_n 3, 1) := by decide +kernel
theorem dX4_handOn_5 : decode cX4_handOn 5 = .ok (.bipush 12, 2) := by decide +kernel
theorem dX4_handOn_7 : decode cX4_handOn 7 = .ok (.if_icmp .ge 59, 3) := by decide +kernel
theorem dX4_handOn_10 : decode cX4_handOn 10 = .ok (.iload_n 2, 1) := by decide +kernel
theorem dX4_handOn_11 : decode cX4_handOn 11 = .ok (.bipush (-5), 2) := by decide +kernel
theorem dX4_handOn_13 : decode cX4_handOn 13 = .ok (.if_icmp .eq 53, 3) := by decide +kernel
theorem dX4_handOn_16 : decode cX4_handOn 16 = .ok (.aload_n 0, 1) := by decide +kernel
theorem dX4_handOn_17 : decode cX4_handOn 17 = .ok (.getfield 18, 3) := by decide +kernel
theorem dX4_handOn_20 : decode cX4_handOn 20 = .ok (.iload_n 2, 1) := by decide +kernel
theorem dX4_handOn_21 : decode cX4_handOn 21 = .ok (.iaload, 1) := by decide +kernel
theorem dX4_handOn_22 : decode cX4_handOn 22 = .ok (.istore 4, 2) := by decide +kernel
theorem dX4_handOn_24 : decode cX4_handOn 24 = .ok (.iload 4, 2) := by decide +kernel
theorem dX4_handOn_26 : decode cX4_handOn 26 = .ok (.bipush (-5), 2) := by decide +kernel
theorem dX4_handOn_28 : decode cX4_handOn 28 = .ok (.if_icmp .ne 4, 3) := by decide +kernel
theorem dX4_handOn_31 : decode cX4_handOn 31 = .ok (.return_, 1) := by decide +kernel
theorem dX4_handOn_32 : decode cX4_handOn 32 = .ok (.aload_n 0, 1) := by decide +kernel
theorem dX4_handOn_33 : decode cX4_handOn 33 = .ok (.getfield 9, 3) := by decide +kernel
theorem dX4_handOn_36 : decode cX4_handOn 36 = .ok (.iload 4, 2) := by decide +kernel
theorem dX4_handOn_38 : decode cX4_handOn 38 = .ok (.iaload, 1) := by decide +kernel
theorem dX4_handOn_39 : decode cX4_handOn 39 = .ok (.istore 5, 2) := by decide +kernel
theorem dX4_handOn_41 : decode cX4_handOn 41 = .ok (.aload_n 0, 1) := by decide +kernel
theorem dX4_handOn_42 : decode cX4_handOn 42 = .ok (.getfield 15, 3) := by decide +kernel
theorem dX4_handOn_45 : decode cX4_handOn 45 = .ok (.iload_n 2, 1) := by decide +kernel
theorem dX4_handOn_46 : decode cX4_handOn 46 = .ok (.iload 4, 2) := by decide +kernel
theorem dX4_handOn_48 : decode cX4_handOn 48 = .ok (.iastore, 1) := by decide +kernel
theorem dX4_handOn_49 : decode cX4_handOn 49 = .ok (.aload_n 0, 1) := by decide +kernel
theorem dX4_handOn_50 : decode cX4_handOn 50 = .ok (.getfield 9, 3) := by decide +kernel
theorem dX4_handOn_53 : decode cX4_handOn 53 = .ok (.iload 4, 2) := by decide +kernel
theorem dX4_handOn_55 : decode cX4_handOn 55 = .ok (.iload_n 2, 1) := by decide +kernel
theorem dX4_handOn_56 : decode cX4_handOn 56 = .ok (.iastore, 1) := by decide +kernel
theorem dX4_handOn_57 : decode cX4_handOn 57 = .ok (.iload 5, 2) := by decide +kernel
theorem dX4_handOn_59 : decode cX4_handOn 59 = .ok (.istore_n 2, 1) := by decide +kernel
theorem dX4_handOn_60 : decode cX4_handOn 60 = .ok (.iinc 3 1, 3) := by decide +kernel
theorem dX4_handOn_63 : decode cX4_handOn 63 = .ok (.goto (-59), 3) := by decide +kernel
theorem dX4_handOn_66 : decode cX4_handOn 66 = .ok (.return_, 1) := by decide +kernel
theorem dX5_init_0 : decode cX5_init 0 = .ok (.aload_n 0, 1) := by decide +kernel
theorem dX5_init_1 : decode cX5_init 1 = .ok (.invokespecial 3, 3) := by decide +kernel
theorem dX5_init_4 : decode cX5_init 4 = .ok (.aload_n 0, 1) := by decide +kernel
theorem dX5_init_5 : decode cX5_init 5 = .ok (.bipush 12, 2) := by decide +kernel
theorem dX5_init_7 : decode cX5_init 7 = .ok (.newarray .int, 2) := by decide +kernel
theorem dX5_init_9 : decode cX5_init 9 = .ok (.putfield 9, 3) := by decide +kernel
theorem dX5_init_12 : decode cX5_init 12 = .ok (.return_, 1) := by decide +kernel
set_option maxRecDepth 20000 in
theorem ggX5_lookAt_X6_pointsTo : GoodIn wsX5_lookAt wsX6_pointsTo := goodIn_r _ [9, 10, 11, 12, 13, 14, 15, 16, 17, 18, 19, 20, 21, 22, 23, 24, 25, 26, 27, 8, 28, 29, 30, 31, 32, 33, 34, 35, 36, 37, 38, 39, 40, 41, 42, 43, 44, 45, 46, 47, 48, 59, 60, 61, 62, 63, 64, 65, 66, 67, 49, 50, 51, 52, 53, 54, 55, 56, 68, 69] (by decide +kernel) (by decide +kernel)
set_option maxRecDepth 20000 in
theorem gX5_lookAt_X6_pointsTo : GoodIn wsX5_lookAt (wsV RX5 28 RX6 yX6_pointsTo wsX6_pointsTo) := goodIn_app (goodIn_of _ (by decide +kernel)) ggX5_lookAt_X6_pointsTo
theorem dX5_lookAt_0 : decode cX5_lookAt 0 = .ok (.aload_n 0, 1) := by decide +kernel
theorem dX5_lookAt_1 : decode cX5_lookAt 1 = .ok (.aload_n 1, 1) := by decide +kernel
theorem dX5_lookAt_2 : decode cX5_lookAt 2 = .ok (.getfield 15, 3) := by decide +kernel
theorem dX5_lookAt_5 : decode cX5_lookAt 5 = .ok (.putfield 21, 3) := by decide +kernel
theorem dX5_lookAt_8 : decode cX5_lookAt 8 = .ok (.iconst 0, 1) := by decide +kernel
theorem dX5_lookAt_9 : decode cX5_lookAt 9 = .ok (.istore_n 2, 1) := by decide +kernel
theorem dX5_lookAt_10 : decode cX5_lookAt 10 = .ok (.iload_n 2, 1) := by decide +kernel
theorem dX5_lookAt_11 : decode cX5_lookAt 11 = .ok (.aload_n 0, 1) := by decide +kernel
theorem dX5_lookAt_12 : decode cX5_lookAt 12 = .ok (.getfield 21, 3) := by decide +kernel
theorem dX5_lookAt_15 : decode cX5_lookAt 15 = .ok (.if_icmp .ge 25, 3) := by decide +kernel
theorem dX5_lookAt_18 : decode cX5_lookAt 18 = .ok (.aload_n 0, 1) := by decide +kernel
theorem dX5_lookAt_19 : decode cX5_lookAt 19 = .ok (.getfield 9, 3) := by decide +kernel
theorem dX5_lookAt_22 : decode cX5_lookAt 22 = .ok (.iload_n 2, 1) := by decide +kernel
theorem dX5_lookAt_23 : decode cX5_lookAt 23 = .ok (.aload_n 1, 1) := by decide +kernel
theorem dX5_lookAt_24 : decode cX5_lookAt 24 = .ok (.aload_n 1, 1) := by decide +kernel
theorem dX5_lookAt_25 : decode cX5_lookAt 25 = .ok (.getfield 24, 3) := by decide +kernel
theorem dX5_lookAt_28 : decode cX5_lookAt 28 = .ok (.iload_n 2, 1) := by decide +kernel
theorem dX5_lookAt_29 : decode cX5_lookAt 29 = .ok (.aaload, 1) := by decide +kernel
theorem dX5_lookAt_30 : decode cX5_lookAt 30 = .ok (.invokevirtual 28, 3) := by decide +kernel
theorem dX5_lookAt_33 : decode cX5_lookAt 33 = .ok (.iastore, 1) := by decide +kernel
theorem dX5_lookAt_34 : decode cX5_lookAt 34 = .ok (.iinc 2 1, 3) := by decide +kernel
theorem dX5_lookAt_37 : decode cX5_lookAt 37 = .ok (.goto (-27), 3) := by decide +kernel
theorem dX5_lookAt_40 : decode cX5_lookAt 40 = .ok (.return_, 1) := by decide +kernel
theorem dX5_after_0 : decode cX5_after 0 = .ok (.iload_n 1, 1) := by decide +kernel
theorem dX5_after_1 : decode cX5_after 1 = .ok (.ifCond .lt 20, 3) := by decide +kernel
theorem dX5_after_4 : decode cX5_after 4 = .ok (.iload_n 1, 1) := by decide +kernel
theorem dX5_after_5 : decode cX5_after 5 = .ok (.aload_n 0, 1) := by decide +kernel
theorem dX5_after_6 : decode cX5_after 6 = .ok (.getfield 21, 3) := by decide +kernel
theorem dX5_after_9 : decode cX5_after 9 = .ok (.if_icmp .ge 12, 3) := by decide +kernel
theorem dX5_after_12 : decode cX5_after 12 = .ok (.aload_n 0, 1) := by decide +kernel
theorem dX5_after_13 : decode cX5_after 13 = .ok (.getfield 9, 3) := by decide +kernel
theorem dX5_after_16 : decode cX5_after 16 = .ok (.iload_n 1, 1) := by decide +kernel
theorem dX5_after_17 : decode cX5_after 17 = .ok (.iaload, 1) := by decide +kernel
theorem dX5_after_18 : decode cX5_after 18 = .ok (.goto 5, 3) := by decide +kernel
theorem dX5_after_21 : decode cX5_after 21 = .ok (.bipush (-5), 2) := by decide +kernel
theorem dX5_after_23 : decode cX5_after 23 = .ok (.ireturn, 1) := by decide +kernel
set_option maxRecDepth 20000 in
theorem ggX5_isInRing_X5_after : GoodIn wsX5_isInRing wsX5_after := goodIn_r _ [6, 1, 7, 8, 9] (by decide +kernel) (by decide +kernel)
set_option maxRecDepth 20000 in
theorem gX5_isInRing_X5_after : GoodIn wsX5_isInRing (wsV RX5 32 RX5 yX5_after wsX5_after) := goodIn_app (goodIn_of _ (by decide +kernel)) ggX5_isInRing_X5_after
theorem dX5_isInRing_0 : decode cX5_isInRing 0 = .ok (.iload_n 1, 1) := by decide +kernel
theorem dX5_isInRing_1 : decode cX5_isInRing 1 = .ok (.istore_n 2, 1) := by decide +kernel
theorem dX5_isInRing_2 : decode cX5_isInRing 2 = .ok (.iconst 0, 1) := by decide +kernel
theorem dX5_isInRing_3 : decode cX5_isInRing 3 = .ok (.istore_n 3, 1) := by decide +kernel
theorem dX5_isInRing_4 : decode cX5_isInRing 4 = .ok (.iload_n 3, 1) := by decide +kernel
theorem dX5_isInRing_5 : decode cX5_isInRing 5 = .ok (.aload_n 0, 1) := by decide +kernel
theorem dX5_isInRing_6 : decode cX5_isInRing 6 = .ok (.getfield 21, 3) := by decide +kernel
theorem dX5_isInRing_9 : decode cX5_isInRing 9 = .ok (.if_icmp .ge 22, 3) := by decide +kernel
theorem dX5_isInRing_12 : decode cX5_isInRing 12 = .ok (.aload_n 0, 1) := by decide +kernel
theorem dX5_isInRing_13 : decode cX5_isInRing 13 = .ok (.iload_n 2, 1) := by decide +kernel
theorem dX5_isInRing_14 : decode cX5_isInRing 14 = .ok (.invokevirtual 32, 3) := by decide +kernel
theorem dX5_isInRing_17 : decode cX5_isInRing 17 = .ok (.istore_n 2, 1) := by decide +kernel
theorem dX5_isInRing_18 : decode cX5_isInRing 18 = .ok (.iload_n 2, 1) := by decide +kernel
theorem dX5_isInRing_19 : decode cX5_isInRing 19 = .ok (.iload_n 1, 1) := by decide +kernel
theorem dX5_isInRing_20 : decode cX5_isInRing 20 = .ok (.if_icmp .ne 5, 3) := by decide +kernel
theorem dX5_isInRing_23 : decode cX5_isInRing 23 = .ok (.iconst 1, 1) := by decide +kernel
theorem dX5_isInRing_24 : decode cX5_isInRing 24 = .ok (.ireturn, 1) := by decide +kernel
theorem dX5_isInRing_25 : decode cX5_isInRing 25 = .ok (.iinc 3 1, 3) := by decide +kernel
theorem dX5_isInRing_28 : decode cX5_isInRing 28 = .ok (.goto (-24), 3) := by decide +kernel
theorem dX5_isInRing_31 : decode cX5_isInRing 31 = .ok (.iconst 0, 1) := by decide +kernel
theorem dX5_isInRing_32 : decode cX5_isInRing 32 = .ok (.ireturn, 1) := by decide +kernel
set_option maxRecDepth 20000 in
theorem ggX5_countHouseholds_X5_isInRing : GoodIn wsX5_countHouseholds wsX5_isInRing := goodIn_r _ [6, 1, 7, 8, 9, 5, 10, 11, 12, 13] (by decide +kernel) (by decide +kernel)
set_option maxRecDepth 20000 in
theorem gX5_countHouseholds_X5_isInRing : GoodIn wsX5_countHouseholds (wsV RX5 36 RX5 yX5_isInRing wsX5_isInRing) := goodIn_app (goodIn_of _ (by decide +kernel)) ggX5_countHouseholds_X5_isInRing
theorem dX5_countHouseholds_0 : decode cX5_countHouseholds 0 = .ok (.iconst 0, 1) := by decide +kernel
theorem dX5_countHouseholds_1 : decode cX5_countHouseholds 1 = .ok (.istore_n 1, 1) := by decide +kernel
theorem dX5_countHouseholds_2 : decode cX5_countHouseholds 2 = .ok (.iconst 0, 1) := by decide +kernel
theorem dX5_countHouseholds_3 : decode cX5_countHouseholds 3 = .ok (.istore_n 2, 1) := by decide +kernel
theorem dX5_countHouseholds_4 : decode cX5_countHouseholds 4 = .ok (.iload_n 2, 1) := by decide +kernel
theorem dX5_countHouseholds_5 : decode cX5_countHouseholds 5 = .ok (.aload_n 0, 1) := by decide +kernel
theorem dX5_countHouseholds_6 : decode cX5_countHouseholds 6 = .ok (.getfield 21, 3) := by decide +kernel
theorem dX5_countHouseholds_9 : decode cX5_countHouseholds 9 = .ok (.if_icmp .ge 20, 3) := by decide +kernel
theorem dX5_countHouseholds_12 : decode cX5_countHouseholds 12 = .ok (.aload_n 0, 1) := by decide +kernel
theorem dX5_countHouseholds_13 : decode cX5_countHouseholds 13 = .ok (.iload_n 2, 1) := by decide +kernel
theorem dX5_countHouseholds_14 : decode cX5_countHouseholds 14 = .ok (.invokevirtual 36, 3) := by decide +kernel
theorem dX5_countHouseholds_17 : decode cX5_countHouseholds 17 = .ok (.ifCond .eq 6, 3) := by decide +kernel
theorem dX5_countHouseholds_20 : decode cX5_countHouseholds 20 = .ok (.iinc 1 1, 3) := by decide +kernel
theorem dX5_countHouseholds_23 : decode cX5_countHouseholds 23 = .ok (.iinc 2 1, 3) := by decide +kernel
theorem dX5_countHouseholds_26 : decode cX5_countHouseholds 26 = .ok (.goto (-22), 3) := by decide +kernel
theorem dX5_countHouseholds_29 : decode cX5_countHouseholds 29 = .ok (.iload_n 1, 1) := by decide +kernel
theorem dX5_countHouseholds_30 : decode cX5_countHouseholds 30 = .ok (.ireturn, 1) := by decide +kernel
set_option maxRecDepth 20000 in
theorem ggX5_lowestHousehold_X5_isInRing : GoodIn wsX5_lowestHousehold wsX5_isInRing := goodIn_r _ [6, 1, 7, 8, 9, 5, 10, 11, 12, 13] (by decide +kernel) (by decide +kernel)
set_option maxRecDepth 20000 in
theorem gX5_lowestHousehold_X5_isInRing : GoodIn wsX5_lowestHousehold (wsV RX5 36 RX5 yX5_isInRing wsX5_isInRing) := goodIn_app (goodIn_of _ (by decide +kernel)) ggX5_lowestHousehold_X5_isInRing
theorem dX5_lowestHousehold_0 : decode cX5_lowestHousehold 0 = .ok (.iconst 0, 1) := by decide +kernel
theorem dX5_lowestHousehold_1 : decode cX5_lowestHousehold 1 = .ok (.istore_n 1, 1) := by decide +kernel
theorem dX5_lowestHousehold_2 : decode cX5_lowestHousehold 2 = .ok (.iload_n 1, 1) := by decide +kernel
theorem dX5_lowestHousehold_3 : decode cX5_lowestHousehold 3 = .ok (.aload_n 0, 1) := by decide +kernel
theorem dX5_lowestHousehold_4 : decode cX5_lowestHousehold 4 = .ok (.getfield 21, 3) := by decide +kernel
theorem dX5_lowestHousehold_7 : decode cX5_lowestHousehold 7 = .ok (.if_icmp .ge 19, 3) := by decide +kernel
theorem dX5_lowestHousehold_10 : decode cX5_lowestHousehold 10 = .ok (.aload_n 0, 1) := by decide +kernel
theorem dX5_lowestHousehold_11 : decode cX5_lowestHousehold 11 = .ok (.iload_n 1, 1) := by decide +kernel
theorem dX5_lowestHousehold_12 : decode cX5_lowestHousehold 12 = .ok (.invokevirtual 36, 3) := by decide +kernel
theorem dX5_lowestHousehold_15 : decode cX5_lowestHousehold 15 = .ok (.ifCond .eq 5, 3) := by decide +kernel
theorem dX5_lowestHousehold_18 : decode cX5_lowestHousehold 18 = .ok (.iload_n 1, 1) := by decide +kernel
theorem dX5_lowestHousehold_19 : decode cX5_lowestHousehold 19 = .ok (.ireturn, 1) := by decide +kernel
theorem dX5_lowestHousehold_20 : decode cX5_lowestHousehold 20 = .ok (.iinc 1 1, 3) := by decide +kernel
theorem dX5_lowestHousehold_23 : decode cX5_lowestHousehold 23 = .ok (.goto (-21), 3) := by decide +kernel
theorem dX5_lowestHousehold_26 : decode cX5_lowestHousehold 26 = .ok (.bipush (-5), 2) := by decide +kernel
theorem dX5_lowestHousehold_28 : decode cX5_lowestHousehold 28 = .ok (.ireturn, 1) := by decide +kernel
set_option maxRecDepth 20000 in
theorem ggX5_swapAll_X5_lookAt : GoodIn wsX5_swapAll wsX5_lookAt := goodIn_r _ [5, 6, 7, 8, 9, 10, 11, 12, 13, 14, 15, 16, 17, 18, 19, 20, 21, 22, 23, 24, 25, 26, 27, 28, 29, 30, 31, 32, 33, 34, 35, 36, 37, 38, 39, 40, 41, 42, 43, 44, 45, 46, 47, 48, 49, 50, 51, 52, 53, 71, 72, 73, 74, 75, 76, 77, 78, 79, 80, 81, 82, 83, 84, 85, 86, 87, 88, 89, 90, 91] (by decide +kernel) (by decide +kernel)
set_option maxRecDepth 20000 in
theorem gX5_swapAll_X5_lookAt : GoodIn wsX5_swapAll (wsV RX5 40 RX5 yX5_lookAt wsX5_lookAt) := goodIn_app (goodIn_of _ (by decide +kernel)) ggX5_swapAll_X5_lookAt
set_option maxRecDepth 20000 in
theorem ggX5_swapAll_X5_lowestHousehold : GoodIn wsX5_swapAll wsX5_lowestHousehold := goodIn_r _ [57, 7, 58, 59, 60, 4, 61, 62, 63, 64, 65, 8, 79, 80] (by decide +kernel) (by decide +kernel)
set_option maxRecDepth 20000 in
theorem gX5_swapAll_X5_lowestHousehold : GoodIn wsX5_swapAll (wsV RX5 44 RX5 yX5_lowestHousehold wsX5_lowestHousehold) := goodIn_app (goodIn_of _ (by decide +kernel)) ggX5_swapAll_X5_lowestHousehold
set_option maxRecDepth 20000 in
theorem ggX5_swapAll_X5_swapRingOf : GoodIn wsX5_swapAll wsX5_swapRingOf := goodIn_r _ [69, 9, 70, 7, 62, 63, 64, 4, 65, 8, 71, 72, 73, 74, 75, 76, 77, 78, 81, 82, 83, 84, 85, 86, 87, 88, 89, 79, 80] (by decide +kernel) (by decide +kernel)
set_option maxRecDepth 20000 in
theorem gX5_swapAll_X5_swapRingOf : GoodIn wsX5_swapAll (wsV RX5 48 RX5 yX5_swapRingOf wsX5_swapRingOf) := goodIn_app (goodIn_of _ (by decide +kernel)) ggX5_swapAll_X5_swapRingOf
theorem dX5_swapAll_0 : decode cX5_swapAll 0 = .ok (.iconst 0, 1) := by decide +kernel
theorem dX5_swapAll_1 : decode cX5_swapAll 1 = .ok (.istore_n 2, 1) := by decide +kernel
theorem dX5_swapAll_2 : decode cX5_swapAll 2 = .ok (.iconst 0, 1) := by decide +kernel
theorem dX5_swapAll_3 : decode cX5_swapAll 3 = .ok (.istore_n 3, 1) := by decide +kernel
theorem dX5_swapAll_4 : decode cX5_swapAll 4 = .ok (.iload_n 3, 1) := by decide +kernel
theorem dX5_swapAll_5 : decode cX5_swapAll 5 = .ok (.sipush 1000, 3) := by decide +kernel
theorem dX5_swapAll_8 : decode cX5_swapAll 8 = .ok (.if_icmp .ge 39, 3) := by decide +kernel
theorem dX5_swapAll_11 : decode cX5_swapAll 11 = .ok (.aload_n 0, 1) := by decide +kernel
theorem dX5_swapAll_12 : decode cX5_swapAll 12 = .ok (.aload_n 1, 1) := by decide +kernel
theorem dX5_swapAll_13 : decode cX5_swapAll 13 = .ok (.invokevirtual 40, 3) := by decide +kernel
theorem dX5_swapAll_16 : decode cX5_swapAll 16 = .ok (.aload_n 0, 1) := by decide +kernel
theorem dX5_swapAll_17 : decode cX5_swapAll 17 = .ok (.invokevirtual 44, 3) := by decide +kernel
theorem dX5_swapAll_20 : decode cX5_swapAll 20 = .ok (.istore 4, 2) := by decide +kernel
theorem dX5_swapAll_22 : decode cX5_swapAll 22 = .ok (.iload 4, 2) := by decide +kernel
theorem dX5_swapAll_24 : decode cX5_swapAll 24 = .ok (.bipush (-5), 2) := by decide +kernel
theorem dX5_swapAll_26 : decode cX5_swapAll 26 = .ok (.if_icmp .ne 5, 3) := by decide +kernel
theorem dX5_swapAll_29 : decode cX5_swapAll 29 = .ok (.iload_n 2, 1) := by decide +kernel
theorem dX5_swapAll_30 : decode cX5_swapAll 30 = .ok (.ireturn, 1) := by decide +kernel
theorem dX5_swapAll_31 : decode cX5_swapAll 31 = .ok (.iload_n 2, 1) := by decide +kernel
theorem dX5_swapAll_32 : decode cX5_swapAll 32 = .ok (.aload_n 0, 1) := by decide +kernel
theorem dX5_swapAll_33 : decode cX5_swapAll 33 = .ok (.iload 4, 2) := by decide +kernel
theorem dX5_swapAll_35 : decode cX5_swapAll 35 = .ok (.aload_n 1, 1) := by decide +kernel
theorem dX5_swapAll_36 : decode cX5_swapAll 36 = .ok (.invokevirtual 48, 3) := by decide +kernel
theorem dX5_swapAll_39 : decode cX5_swapAll 39 = .ok (.iadd, 1) := by decide +kernel
theorem dX5_swapAll_40 : decode cX5_swapAll 40 = .ok (.istore_n 2, 1) := by decide +kernel
theorem dX5_swapAll_41 : decode cX5_swapAll 41 = .ok (.iinc 3 1, 3) := by decide +kernel
theorem dX5_swapAll_44 : decode cX5_swapAll 44 = .ok (.goto (-40), 3) := by decide +kernel
theorem dX5_swapAll_47 : decode cX5_swapAll 47 = .ok (.iload_n 2, 1) := by decide +kernel
theorem dX5_swapAll_48 : decode cX5_swapAll 48 = .ok (.ireturn, 1) := by decide +kernel
set_option maxRecDepth 20000 in
theorem ggX5_swapRingOf_X5_after : GoodIn wsX5_swapRingOf wsX5_after := goodIn_r _ [8, 3, 9, 27, 28] (by decide +kernel) (by decide +kernel)
set_option maxRecDepth 20000 in
theorem gX5_swapRingOf_X5_after : GoodIn wsX5_swapRingOf (wsV RX5 32 RX5 yX5_after wsX5_after) := goodIn_app (goodIn_of _ (by decide +kernel)) ggX5_swapRingOf_X5_after
theorem dX5_swapRingOf_0 : decode cX5_swapRingOf 0 = .ok (.aload_n 2, 1) := by decide +kernel
theorem dX5_swapRingOf_1 : decode cX5_swapRingOf 1 = .ok (.getfield 24, 3) := by decide +kernel
theorem dX5_swapRingOf_4 : decode cX5_swapRingOf 4 = .ok (.iload_n 1, 1) := by decide +kernel
theorem dX5_swapRingOf_5 : decode cX5_swapRingOf 5 = .ok (.aaload, 1) := by decide +kernel
theorem dX5_swapRingOf_6 : decode cX5_swapRingOf 6 = .ok (.getfield 52, 3) := by decide +kernel
theorem dX5_swapRingOf_9 : decode cX5_swapRingOf 9 = .ok (.istore_n 3, 1) := by decide +kernel
theorem dX5_swapRingOf_10 : decode cX5_swapRingOf 10 = .ok (.iload_n 1, 1) := by decide +kernel
theorem dX5_swapRingOf_11 : decode cX5_swapRingOf 11 = .ok (.istore 4, 2) := by decide +kernel
theorem dX5_swapRingOf_13 : decode cX5_swapRingOf 13 = .ok (.iconst 1, 1) := by decide +kernel
theorem dX5_swapRingOf_14 : decode cX5_swapRingOf 14 = .ok (.istore 5, 2) := by decide +kernel
theorem dX5_swapRingOf_16 : decode cX5_swapRingOf 16 = .ok (.iload 5, 2) := by decide +kernel
theorem dX5_swapRingOf_18 : decode cX5_swapRingOf 18 = .ok (.aload_n 0, 1) := by decide +kernel
theorem dX5_swapRingOf_19 : decode cX5_swapRingOf 19 = .ok (.getfield 21, 3) := by decide +kernel
theorem dX5_swapRingOf_22 : decode cX5_swapRingOf 22 = .ok (.if_icmp .gt 68, 3) := by decide +kernel
theorem dX5_swapRingOf_25 : decode cX5_swapRingOf 25 = .ok (.aload_n 0, 1) := by decide +kernel
theorem dX5_swapRingOf_26 : decode cX5_swapRingOf 26 = .ok (.iload 4, 2) := by decide +kernel
theorem dX5_swapRingOf_28 : decode cX5_swapRingOf 28 = .ok (.invokevirtual 32, 3) := by decide +kernel
theorem dX5_swapRingOf_31 : decode cX5_swapRingOf 31 = .ok (.istore 6, 2) := by decide +kernel
theorem dX5_swapRingOf_33 : decode cX5_swapRingOf 33 = .ok (.iload 6, 2) := by decide +kernel
theorem dX5_swapRingOf_35 : decode cX5_swapRingOf 35 = .ok (.bipush (-5), 2) := by decide +kernel
theorem dX5_swapRingOf_37 : decode cX5_swapRingOf 37 = .ok (.if_icmp .eq 9, 3) := by decide +kernel
theorem dX5_swapRingOf_40 : decode cX5_swapRingOf 40 = .ok (.iload 6, 2) := by decide +kernel
theorem dX5_swapRingOf_42 : decode cX5_swapRingOf 42 = .ok (.iload_n 1, 1) := by decide +kernel
theorem dX5_swapRingOf_43 : decode cX5_swapRingOf 43 = .ok (.if_icmp .ne 17, 3) := by decide +kernel
theorem dX5_swapRingOf_46 : decode cX5_swapRingOf 46 = .ok (.aload_n 2, 1) := by decide +kernel
theorem dX5_swapRingOf_47 : decode cX5_swapRingOf 47 = .ok (.getfield 24, 3) := by decide +kernel
theorem dX5_swapRingOf_50 : decode cX5_swapRingOf 50 = .ok (.iload 4, 2) := by decide +kernel
theorem dX5_swapRingOf_52 : decode cX5_swapRingOf 52 = .ok (.aaload, 1) := by decide +kernel
theorem dX5_swapRingOf_53 : decode cX5_swapRingOf 53 = .ok (.iload_n 3, 1) := by decide +kernel
theorem dX5_swapRingOf_54 : decode cX5_swapRingOf 54 = .ok (.putfield 52, 3) := by decide +kernel
theorem dX5_swapRingOf_57 : decode cX5_swapRingOf 57 = .ok (.iload 5, 2) := by decide +kernel
theorem dX5_swapRingOf_59 : decode cX5_swapRingOf 59 = .ok (.ireturn, 1) := by decide +kernel
theorem dX5_swapRingOf_60 : decode cX5_swapRingOf 60 = .ok (.aload_n 2, 1) := by decide +kernel
theorem dX5_swapRingOf_61 : decode cX5_swapRingOf 61 = .ok (.getfield 24, 3) := by decide +kernel
theorem dX5_swapRingOf_64 : decode cX5_swapRingOf 64 = .ok (.iload 4, 2) := by decide +kernel
theorem dX5_swapRingOf_66 : decode cX5_swapRingOf 66 = .ok (.aaload, 1) := by decide +kernel
theorem dX5_swapRingOf_67 : decode cX5_swapRingOf 67 = .ok (.aload_n 2, 1) := by decide +kernel
theorem dX5_swapRingOf_68 : decode cX5_swapRingOf 68 = .ok (.getfield 24, 3) := by decide +kernel
theorem dX5_swapRingOf_71 : decode cX5_swapRingOf 71 = .ok (.iload 6, 2) := by decide +kernel
theorem dX5_swapRingOf_73 : decode cX5_swapRingOf 73 = .ok (.aaload, 1) := by decide +kernel
theorem dX5_swapRingOf_74 : decode cX5_swapRingOf 74 = .ok (.getfield 52, 3) := by decide +kernel
theorem dX5_swapRingOf_77 : decode cX5_swapRingOf 77 = .ok (.putfield 52, 3) := by decide +kernel
theorem dX5_swapRingOf_80 : decode cX5_swapRingOf 80 = .ok (.iload 6, 2) := by decide +kernel
theorem dX5_swapRingOf_82 : decode cX5_swapRingOf 82 = .ok (.istore 4, 2) := by decide +kernel
theorem dX5_swapRingOf_84 : decode cX5_swapRingOf 84 = .ok (.iinc 5 1, 3) := by decide +kernel
theorem dX5_swapRingOf_87 : decode cX5_swapRingOf 87 = .ok (.goto (-71), 3) := by decide +kernel
theorem dX5_swapRingOf_90 : decode cX5_swapRingOf 90 = .ok (.aload_n 0, 1) := by decide +kernel
theorem dX5_swapRingOf_91 : decode cX5_swapRingOf 91 = .ok (.getfield 21, 3) := by decide +kernel
theorem dX5_swapRingOf_94 : decode cX5_swapRingOf 94 = .ok (.ireturn, 1) := by decide +kernel
set_option maxRecDepth 20000 in
theorem ggX6_init_X0_init : GoodIn wsX6_init wsX0_init := goodIn_r _ [15, 16, 2, 3] (by decide +kernel) (by decide +kernel)
set_option maxRecDepth 20000 in
theorem gX6_init_X0_init_n27 : GoodIn wsX6_init (wsX0_init) := ggX6_init_X0_init
set_option maxRecDepth 20000 in
theorem ggX6_init_X2_init : GoodIn wsX6_init wsX2_init := goodIn_r _ [18, 19, 2, 3, 8, 20, 31, 32, 33, 34, 35, 36, 37, 38, 39] (by decide +kernel) (by decide +kernel)
set_option maxRecDepth 20000 in
theorem gX6_init_X2_init_n28 : GoodIn wsX6_init (wsX2_init) := ggX6_init_X2_init
theorem dX6_init_0 : decode cX6_init 0 = .ok (.aload_n 0, 1) := by decide +kernel
theorem dX6_init_1 : decode cX6_init 1 = .ok (.invokespecial 3, 3) := by decide +kernel
theorem dX6_init_4 : decode cX6_init 4 = .ok (.aload_n 0, 1) := by decide +kernel
theorem dX6_init_5 : decode cX6_init 5 = .ok (.bipush 12, 2) := by decide +kernel
theorem dX6_init_7 : decode cX6_init 7 = .ok (.anewarray 9, 3) := by decide +kernel
theorem dX6_init_10 : decode cX6_init 10 = .ok (.putfield 11, 3) := by decide +kernel
theorem dX6_init_13 : decode cX6_init 13 = .ok (.aload_n 0, 1) := by decide +kernel
theorem dX6_init_14 : decode cX6_init 14 = .ok (.bipush 12, 2) := by decide +kernel
theorem dX6_init_16 : decode cX6_init 16 = .ok (.anewarray 17, 3) := by decide +kernel
theorem dX6_init_19 : decode cX6_init 19 = .ok (.putfield 19, 3) := by decide +kernel
theorem dX6_init_22 : decode cX6_init 22 = .ok (.aload_n 0, 1) := by decide +kernel
theorem dX6_init_23 : decode cX6_init 23 = .ok (.bipush 12, 2) := by decide +kernel
theorem dX6_init_25 : decode cX6_init 25 = .ok (.newarray .int, 2) := by decide +kernel
theorem dX6_init_27 : decode cX6_init 27 = .ok (.putfield 23, 3) := by decide +kernel
theorem dX6_init_30 : decode cX6_init 30 = .ok (.iconst 0, 1) := by decide +kernel
theorem dX6_init_31 : decode cX6_init 31 = .ok (.istore_n 1, 1) := by decide +kernel
theorem dX6_init_32 : decode cX6_init 32 = .ok (.iload_n 1, 1) := by decide +kernel
theorem dX6_init_33 : decode cX6_init 33 = .ok (.bipush 12, 2) := by decide +kernel
theorem dX6_init_35 : decode cX6_init 35 = .ok (.if_icmp .ge 22, 3) := by decide +kernel
theorem dX6_init_38 : decode cX6_init 38 = .ok (.aload_n 0, 1) := by decide +kernel
theorem dX6_init_39 : decode cX6_init 39 = .ok (.getfield 11, 3) := by decide +kernel
theorem dX6_init_42 : decode cX6_init 42 = .ok (.iload_n 1, 1) := by decide +kernel
theorem dX6_init_43 : decode cX6_init 43 = .ok (.new 9, 3) := by decide +kernel
theorem dX6_init_46 : decode cX6_init 46 = .ok (.dup, 1) := by decide +kernel
theorem dX6_init_47 : decode cX6_init 47 = .ok (.invokespecial 27, 3) := by decide +kernel
theorem dX6_init_50 : decode cX6_init 50 = .ok (.aastore, 1) := by decide +kernel
theorem dX6_init_51 : decode cX6_init 51 = .ok (.iinc 1 1, 3) := by decide +kernel
theorem dX6_init_54 : decode cX6_init 54 = .ok (.goto (-22), 3) := by decide +kernel
theorem dX6_init_57 : decode cX6_init 57 = .ok (.iconst 0, 1) := by decide +kernel
theorem dX6_init_58 : decode cX6_init 58 = .ok (.istore_n 1, 1) := by decide +kernel
theorem dX6_init_59 : decode cX6_init 59 = .ok (.iload_n 1, 1) := by decide +kernel
theorem dX6_init_60 : decode cX6_init 60 = .ok (.bipush 12, 2) := by decide +kernel
theorem dX6_init_62 : decode cX6_init 62 = .ok (.if_icmp .ge 22, 3) := by decide +kernel
theorem dX6_init_65 : decode cX6_init 65 = .ok (.aload_n 0, 1) := by decide +kernel
theorem dX6_init_66 : decode cX6_init 66 = .ok (.getfield 19, 3) := by decide +kernel
theorem dX6_init_69 : decode cX6_init 69 = .ok (.iload_n 1, 1) := by decide +kernel
theorem dX6_init_70 : decode cX6_init 70 = .ok (.new 17, 3) := by decide +kernel
theorem dX6_init_73 : decode cX6_init 73 = .ok (.dup, 1) := by decide +kernel
theorem dX6_init_74 : decode cX6_init 74 = .ok (.invokespecial 28, 3) := by decide +kernel
theorem dX6_init_77 : decode cX6_init 77 = .ok (.aastore, 1) := by decide +kernel
theorem dX6_init_78 : decode cX6_init 78 = .ok (.iinc 1 1, 3) := by decide +kernel
theorem dX6_init_81 : decode cX6_init 81 = .ok (.goto (-22), 3) := by decide +kernel
theorem dX6_init_84 : decode cX6_init 84 = .ok (.return_, 1) := by decide +kernel
set_option maxRecDepth 20000 in
theorem ggX6_copyFrom_X0_copyFrom : GoodIn wsX6_copyFrom wsX0_copyFrom := goodIn_r _ [12, 13, 14, 37, 38] (by decide +kernel) (by decide +kernel)
set_option maxRecDepth 20000 in
theorem gX6_copyFrom_X0_copyFrom : GoodIn wsX6_copyFrom (wsV RX6 33 RX0 yX0_copyFrom wsX0_copyFrom) := goodIn_app (goodIn_of _ (by decide +kernel)) ggX6_copyFrom_X0_copyFrom
set_option maxRecDepth 20000 in
theorem ggX6_copyFrom_X2_copyFrom : GoodIn wsX6_copyFrom wsX2_copyFrom := goodIn_r _ [19, 20, 21, 22, 23, 24, 25, 26, 27, 28, 39, 40, 41, 42, 43, 44, 45, 46, 47] (by decide +kernel) (by decide +kernel)
set_option maxRecDepth 20000 in
theorem gX6_copyFrom_X2_copyFrom : GoodIn wsX6_copyFrom (wsV RX6 40 RX2 yX2_copyFrom wsX2_copyFrom) := goodIn_app (goodIn_of _ (by decide +kernel)) ggX6_copyFrom_X2_copyFrom
theorem dX6_copyFrom_0 : decode cX6_copyFrom 0 = .ok (.aload_n 0, 1) := by decide +kernel
theorem dX6_copyFrom_1 : decode cX6_copyFrom 1 = .ok (.aload_n 1, 1) := by decide +kernel
theorem dX6_copyFrom_2 : decode cX6_copyFrom 2 = .ok (.getfield 29, 3) := by decide +kernel
theorem dX6_copyFrom_5 : decode cX6_copyFrom 5 = .ok (.putfield 29, 3) := by decide +kernel
theorem dX6_copyFrom_8 : decode cX6_copyFrom 8 = .ok (.iconst 0, 1) := by decide +kernel
theorem dX6_copyFrom_9 : decode cX6_copyFrom 9 = .ok (.istore_n 2, 1) := by decide +kernel
theorem dX6_copyFrom_10 : decode cX6_copyFrom 10 = .ok (.iload_n 2, 1) := by decide +kernel
theorem dX6_copyFrom_11 : decode cX6_copyFrom 11 = .ok (.aload_n 0, 1) := by decide +kernel
theorem dX6_copyFrom_12 : decode cX6_copyFrom 12 = .ok (.getfield 29, 3) := by decide +kernel
theorem dX6_copyFrom_15 : decode cX6_copyFrom 15 = .ok (.if_icmp .ge 24, 3) := by decide +kernel
theorem dX6_copyFrom_18 : decode cX6_copyFrom 18 = .ok (.aload_n 0, 1) := by decide +kernel
theorem dX6_copyFrom_19 : decode cX6_copyFrom 19 = .ok (.getfield 11, 3) := by decide +kernel
theorem dX6_copyFrom_22 : decode cX6_copyFrom 22 = .ok (.iload_n 2, 1) := by decide +kernel
theorem dX6_copyFrom_23 : decode cX6_copyFrom 23 = .ok (.aaload, 1) := by decide +kernel
theorem dX6_copyFrom_24 : decode cX6_copyFrom 24 = .ok (.aload_n 1, 1) := by decide +kernel
theorem dX6_copyFrom_25 : decode cX6_copyFrom 25 = .ok (.getfield 11, 3) := by decide +kernel
theorem dX6_copyFrom_28 : decode cX6_copyFrom 28 = .ok (.iload_n 2, 1) := by decide +kernel
theorem dX6_copyFrom_29 : decode cX6_copyFrom 29 = .ok (.aaload, 1) := by decide +kernel
theorem dX6_copyFrom_30 : decode cX6_copyFrom 30 = .ok (.invokevirtual 33, 3) := by decide +kernel
theorem dX6_copyFrom_33 : decode cX6_copyFrom 33 = .ok (.iinc 2 1, 3) := by decide +kernel
theorem dX6_copyFrom_36 : decode cX6_copyFrom 36 = .ok (.goto (-26), 3) := by decide +kernel
theorem dX6_copyFrom_39 : decode cX6_copyFrom 39 = .ok (.aload_n 0, 1) := by decide +kernel
theorem dX6_copyFrom_40 : decode cX6_copyFrom 40 = .ok (.aload_n 1, 1) := by decide +kernel
theorem dX6_copyFrom_41 : decode cX6_copyFrom 41 = .ok (.getfield 37, 3) := by decide +kernel
theorem dX6_copyFrom_44 : decode cX6_copyFrom 44 = .ok (.putfield 37, 3) := by decide +kernel
theorem dX6_copyFrom_47 : decode cX6_copyFrom 47 = .ok (.iconst 0, 1) := by decide +kernel
theorem dX6_copyFrom_48 : decode cX6_copyFrom 48 = .ok (.istore_n 2, 1) := by decide +kernel
theorem dX6_copyFrom_49 : decode cX6_copyFrom 49 = .ok (.iload_n 2, 1) := by decide +kernel
theorem dX6_copyFrom_50 : decode cX6_copyFrom 50 = .ok (.aload_n 0, 1) := by decide +kernel
theorem dX6_copyFrom_51 : decode cX6_copyFrom 51 = .ok (.getfield 37, 3) := by decide +kernel
theorem dX6_copyFrom_54 : decode cX6_copyFrom 54 = .ok (.if_icmp .ge 24, 3) := by decide +kernel
theorem dX6_copyFrom_57 : decode cX6_copyFrom 57 = .ok (.aload_n 0, 1) := by decide +kernel
theorem dX6_copyFrom_58 : decode cX6_copyFrom 58 = .ok (.getfield 19, 3) := by decide +kernel
theorem dX6_copyFrom_61 : decode cX6_copyFrom 61 = .ok (.iload_n 2, 1) := by decide +kernel
theorem dX6_copyFrom_62 : decode cX6_copyFrom 62 = .ok (.aaload, 1) := by decide +kernel
theorem dX6_copyFrom_63 : decode cX6_copyFrom 63 = .ok (.aload_n 1, 1) := by decide +kernel
theorem dX6_copyFrom_64 : decode cX6_copyFrom 64 = .ok (.getfield 19, 3) := by decide +kernel
theorem dX6_copyFrom_67 : decode cX6_copyFrom 67 = .ok (.iload_n 2, 1) := by decide +kernel
theorem dX6_copyFrom_68 : decode cX6_copyFrom 68 = .ok (.aaload, 1) := by decide +kernel
theorem dX6_copyFrom_69 : decode cX6_copyFrom 69 = .ok (.invokevirtual 40, 3) := by decide +kernel
theorem dX6_copyFrom_72 : decode cX6_copyFrom 72 = .ok (.iinc 2 1, 3) := by decide +kernel
theorem dX6_copyFrom_75 : decode cX6_copyFrom 75 = .ok (.goto (-26), 3) := by decide +kernel
theorem dX6_copyFrom_78 : decode cX6_copyFrom 78 = .ok (.aload_n 0, 1) := by decide +kernel
theorem dX6_copyFrom_79 : decode cX6_copyFrom 79 = .ok (.aload_n 1, 1) := by decide +kernel
theorem dX6_copyFrom_80 : decode cX6_copyFrom 80 = .ok (.getfield 43, 3) := by decide +kernel
theorem dX6_copyFrom_83 : decode cX6_copyFrom 83 = .ok (.putfield 43, 3) := by decide +kernel
theorem dX6_copyFrom_86 : decode cX6_copyFrom 86 = .ok (.aload_n 0, 1) := by decide +kernel
theorem dX6_copyFrom_87 : decode cX6_copyFrom 87 = .ok (.aload_n 1, 1) := by decide +kernel
theorem dX6_copyFrom_88 : decode cX6_copyFrom 88 = .ok (.getfield 46, 3) := by decide +kernel
theorem dX6_copyFrom_91 : decode cX6_copyFrom 91 = .ok (.putfield 46, 3) := by decide +kernel
theorem dX6_copyFrom_94 : decode cX6_copyFrom 94 = .ok (.aload_n 0, 1) := by decide +kernel
theorem dX6_copyFrom_95 : decode cX6_copyFrom 95 = .ok (.aload_n 1, 1) := by decide +kernel
theorem dX6_copyFrom_96 : decode cX6_copyFrom 96 = .ok (.getfield 49, 3) := by decide +kernel
theorem dX6_copyFrom_99 : decode cX6_copyFrom 99 = .ok (.putfield 49, 3) := by decide +kernel
theorem dX6_copyFrom_102 : decode cX6_copyFrom 102 = .ok (.return_, 1) := by decide +kernel
theorem dX6_hasFlat_0 : decode cX6_hasFlat 0 = .ok (.iload_n 1, 1) := by decide +kernel
theorem dX6_hasFlat_1 : decode cX6_hasFlat 1 = .ok (.ifCond .lt 15, 3) := by decide +kernel
theorem dX6_hasFlat_4 : decode cX6_hasFlat 4 = .ok (.iload_n 1, 1) := by decide +kernel
theorem dX6_hasFlat_5 : decode cX6_hasFlat 5 = .ok (.aload_n 0, 1) := by decide +kernel
theorem dX6_hasFlat_6 : decode cX6_hasFlat 6 = .ok (.getfield 29, 3) := by decide +kernel
theorem dX6_hasFlat_9 : decode cX6_hasFlat 9 = .ok (.if_icmp .ge 7, 3) := by decide +kernel
theorem dX6_hasFlat_12 : decode cX6_hasFlat 12 = .ok (.iconst 1, 1) := by decide +kernel
theorem dX6_hasFlat_13 : decode cX6_hasFlat 13 = .ok (.goto 4, 3) := by decide +kernel
theorem dX6_hasFlat_16 : decode cX6_hasFlat 16 = .ok (.iconst 0, 1) := by decide +kernel
theorem dX6_hasFlat_17 : decode cX6_hasFlat 17 = .ok (.ireturn, 1) := by decide +kernel
theorem dX6_hasHousehold_0 : decode cX6_hasHousehold 0 = .ok (.iload_n 1, 1) := by decide +kernel
theorem dX6_hasHousehold_1 : decode cX6_hasHousehold 1 = .ok (.ifCond .lt 15, 3) := by decide +kernel
theorem dX6_hasHousehold_4 : decode cX6_hasHousehold 4 = .ok (.iload_n 1, 1) := by decide +kernel
theorem dX6_hasHousehold_5 : decode cX6_hasHousehold 5 = .ok (.aload_n 0, 1) := by decide +kernel
theorem dX6_hasHousehold_6 : decode cX6_hasHousehold 6 = .ok (.getfield 37, 3) := by decide +kernel
theorem dX6_hasHousehold_9 : decode cX6_hasHousehold 9 = .ok (.if_icmp .ge 7, 3) := by decide +kernel
theorem dX6_hasHousehold_12 : decode cX6_hasHousehold 12 = .ok (.iconst 1, 1) := by decide +kernel
theorem dX6_hasHousehold_13 : decode cX6_hasHousehold 13 = .ok (.goto 4, 3) := by decide +kernel
theorem dX6_hasHousehold_16 : decode cX6_hasHousehold 16 = .ok (.iconst 0, 1) := by decide +kernel
theorem dX6_hasHousehold_17 : decode cX6_hasHousehold 17 = .ok (.ireturn, 1) := by decide +kernel
theorem dX6_holderOf_0 : decode cX6_holderOf 0 = .ok (.iconst 0, 1) := by decide +kernel
theorem dX6_holderOf_1 : decode cX6_holderOf 1 = .ok (.istore_n 2, 1) := by decide +kernel
theorem dX6_holderOf_2 : decode cX6_holderOf 2 = .ok (.iload_n 2, 1) := by decide +kernel
theorem dX6_holderOf_3 : decode cX6_holderOf 3 = .ok (.aload_n 0, 1) := by decide +kernel
theorem dX6_holderOf_4 : decode cX6_holderOf 4 = .ok (.getfield 37, 3) := by decide +kernel
theorem dX6_holderOf_7 : decode cX6_holderOf 7 = .ok (.if_icmp .ge 24, 3) := by decide +kernel
theorem dX6_holderOf_10 : decode cX6_holderOf 10 = .ok (.aload_n 0, 1) := by decide +kernel
theorem dX6_holderOf_11 : decode cX6_holderOf 11 = .ok (.getfield 19, 3) := by decide +kernel
theorem dX6_holderOf_14 : decode cX6_holderOf 14 = .ok (.iload_n 2, 1) := by decide +kernel
theorem dX6_holderOf_15 : decode cX6_holderOf 15 = .ok (.aaload, 1) := by decide +kernel
theorem dX6_holderOf_16 : decode cX6_holderOf 16 = .ok (.getfield 52, 3) := by decide +kernel
theorem dX6_holderOf_19 : decode cX6_holderOf 19 = .ok (.iload_n 1, 1) := by decide +kernel
theorem dX6_holderOf_20 : decode cX6_holderOf 20 = .ok (.if_icmp .ne 5, 3) := by decide +kernel
theorem dX6_holderOf_23 : decode cX6_holderOf 23 = .ok (.iload_n 2, 1) := by decide +kernel
theorem dX6_holderOf_24 : decode cX6_holderOf 24 = .ok (.ireturn, 1) := by decide +kernel
theorem dX6_holderOf_25 : decode cX6_holderOf 25 = .ok (.iinc 2 1, 3) := by decide +kernel
theorem dX6_holderOf_28 : decode cX6_holderOf 28 = .ok (.goto (-26), 3) := by decide +kernel
theorem dX6_holderOf_31 : decode cX6_holderOf 31 = .ok (.bipush (-5), 2) := by decide +kernel
theorem dX6_holderOf_33 : decode cX6_holderOf 33 = .ok (.ireturn, 1) := by decide +kernel
theorem dX6_ownerOfNumber_0 : decode cX6_ownerOfNumber 0 = .ok (.iconst 0, 1) := by decide +kernel
theorem dX6_ownerOfNumber_1 : decode cX6_ownerOfNumber 1 = .ok (.istore_n 2, 1) := by decide +kernel
theorem dX6_ownerOfNumber_2 : decode cX6_ownerOfNumber 2 = .ok (.iload_n 2, 1) := by decide +kernel
theorem dX6_ownerOfNumber_3 : decode cX6_ownerOfNumber 3 = .ok (.aload_n 0, 1) := by decide +kernel
theorem dX6_ownerOfNumber_4 : decode cX6_ownerOfNumber 4 = .ok (.getfield 37, 3) := by decide +kernel
theorem dX6_ownerOfNumber_7 : decode cX6_ownerOfNumber 7 = .ok (.if_icmp .ge 24, 3) := by decide +kernel
theorem dX6_ownerOfNumber_10 : decode cX6_ownerOfNumber 10 = .ok (.aload_n 0, 1) := by decide +kernel
theorem dX6_ownerOfNumber_11 : decode cX6_ownerOfNumber 11 = .ok (.getfield 19, 3) := by decide +kernel
theorem dX6_ownerOfNumber_14 : decode cX6_ownerOfNumber 14 = .ok (.iload_n 2, 1) := by decide +kernel
theorem dX6_ownerOfNumber_15 : decode cX6_ownerOfNumber 15 = .ok (.aaload, 1) := by decide +kernel
theorem dX6_ownerOfNumber_16 : decode cX6_ownerOfNumber 16 = .ok (.getfield 55, 3) := by decide +kernel
theorem dX6_ownerOfNumber_19 : decode cX6_ownerOfNumber 19 = .ok (.iload_n 1, 1) := by decide +kernel
theorem dX6_ownerOfNumber_20 : decode cX6_ownerOfNumber 20 = .ok (.if_icmp .ne 5, 3) := by decide +kernel
theorem dX6_ownerOfNumber_23 : decode cX6_ownerOfNumber 23 = .ok (.iload_n 2, 1) := by decide +kernel
theorem dX6_ownerOfNumber_24 : decode cX6_ownerOfNumber 24 = .ok (.ireturn, 1) := by decide +kernel
theorem dX6_ownerOfNumber_25 : decode cX6_ownerOfNumber 25 = .ok (.iinc 2 1, 3) := by decide +kernel
theorem dX6_ownerOfNumber_28 : decode cX6_ownerOfNumber 28 = .ok (.goto (-26), 3) := by decide +kernel
theorem dX6_ownerOfNumber_31 : decode cX6_ownerOfNumber 31 = .ok (.bipush (-5), 2) := by decide +kernel
theorem dX6_ownerOfNumber_33 : decode cX6_ownerOfNumber 33 = .ok (.ireturn, 1) := by decide +kernel
set_option maxRecDepth 20000 in
theorem ggX6_wishersOf_X2_placeOf : GoodIn wsX6_wishersOf wsX2_placeOf := goodIn_r _ [7, 8, 9, 18, 19, 20, 21, 22, 23, 24, 25, 26] (by decide +kernel) (by decide +kernel)
set_option maxRecDepth 20000 in
theorem gX6_wishersOf_X2_placeOf : GoodIn wsX6_wishersOf (wsV RX6 58 RX2 yX2_placeOf wsX2_placeOf) := goodIn_app (goodIn_of _ (by decide +kernel)) ggX6_wishersOf_X2_placeOf
theorem dX6_wishersOf_0 : decode cX6_wishersOf 0 = .ok (.iconst 0, 1) := by decide +kernel
theorem dX6_wishersOf_1 : decode cX6_wishersOf 1 = .ok (.istore_n 2, 1) := by decide +kernel
theorem dX6_wishersOf_2 : decode cX6_wishersOf 2 = .ok (.iconst 0, 1) := by decide +kernel
theorem dX6_wishersOf_3 : decode cX6_wishersOf 3 = .ok (.istore_n 3, 1) := by decide +kernel
theorem dX6_wishersOf_4 : decode cX6_wishersOf 4 = .ok (.iload_n 3, 1) := by decide +kernel
theorem dX6_wishersOf_5 : decode cX6_wishersOf 5 = .ok (.aload_n 0, 1) := by decide +kernel
theorem dX6_wishersOf_6 : decode cX6_wishersOf 6 = .ok (.getfield 37, 3) := by decide +kernel
theorem dX6_wishersOf_9 : decode cX6_wishersOf 9 = .ok (.if_icmp .ge 30, 3) := by decide +kernel
theorem dX6_wishersOf_12 : decode cX6_wishersOf 12 = .ok (.aload_n 0, 1) := by decide +kernel
theorem dX6_wishersOf_13 : decode cX6_wishersOf 13 = .ok (.getfield 19, 3) := by decide +kernel
theorem dX6_wishersOf_16 : decode cX6_wishersOf 16 = .ok (.iload_n 3, 1) := by decide +kernel
theorem dX6_wishersOf_17 : decode cX6_wishersOf 17 = .ok (.aaload, 1) := by decide +kernel
theorem dX6_wishersOf_18 : decode cX6_wishersOf 18 = .ok (.iload_n 1, 1) := by decide +kernel
theorem dX6_wishersOf_19 : decode cX6_wishersOf 19 = .ok (.invokevirtual 58, 3) := by decide +kernel
theorem dX6_wishersOf_22 : decode cX6_wishersOf 22 = .ok (.bipush (-5), 2) := by decide +kernel
theorem dX6_wishersOf_24 : decode cX6_wishersOf 24 = .ok (.if_icmp .eq 9, 3) := by decide +kernel
theorem dX6_wishersOf_27 : decode cX6_wishersOf 27 = .ok (.iload_n 2, 1) := by decide +kernel
theorem dX6_wishersOf_28 : decode cX6_wishersOf 28 = .ok (.iconst 1, 1) := by decide +kernel
theorem dX6_wishersOf_29 : decode cX6_wishersOf 29 = .ok (.iload_n 3, 1) := by decide +kernel
theorem dX6_wishersOf_30 : decode cX6_wishersOf 30 = .ok (.ishl, 1) := by decide +kernel
theorem dX6_wishersOf_31 : decode cX6_wishersOf 31 = .ok (.ior, 1) := by decide +kernel
theorem dX6_wishersOf_32 : decode cX6_wishersOf 32 = .ok (.istore_n 2, 1) := by decide +kernel
theorem dX6_wishersOf_33 : decode cX6_wishersOf 33 = .ok (.iinc 3 1, 3) := by decide +kernel
theorem dX6_wishersOf_36 : decode cX6_wishersOf 36 = .ok (.goto (-32), 3) := by decide +kernel
theorem dX6_wishersOf_39 : decode cX6_wishersOf 39 = .ok (.iload_n 2, 1) := by decide +kernel
theorem dX6_wishersOf_40 : decode cX6_wishersOf 40 = .ok (.ireturn, 1) := by decide +kernel
set_option maxRecDepth 20000 in
theorem ggX6_eligibleFor_X6_isEligible : GoodIn wsX6_eligibleFor wsX6_isEligible := goodIn_r _ [7, 8, 9, 10, 11, 6, 12, 13, 14, 15, 16, 17, 18, 19, 20, 21, 22, 23, 24, 25, 26, 27, 28, 29, 30, 31, 32, 33, 34, 35, 36, 37, 38, 39, 40, 41] (by decide +kernel) (by decide +kernel)
set_option maxRecDepth 20000 in
theorem gX6_eligibleFor_X6_isEligible : GoodIn wsX6_eligibleFor (wsV RX6 62 RX6 yX6_isEligible wsX6_isEligible) := goodIn_app (goodIn_of _ (by decide +kernel)) ggX6_eligibleFor_X6_isEligible
theorem dX6_eligibleFor_0 : decode cX6_eligibleFor 0 = .ok (.iconst 0, 1) := by decide +kernel
theorem dX6_eligibleFor_1 : decode cX6_eligibleFor 1 = .ok (.istore_n 2, 1) := by decide +kernel
theorem dX6_eligibleFor_2 : decode cX6_eligibleFor 2 = .ok (.iconst 0, 1) := by decide +kernel
theorem dX6_eligibleFor_3 : decode cX6_eligibleFor 3 = .ok (.istore_n 3, 1) := by decide +kernel
theorem dX6_eligibleFor_4 : decode cX6_eligibleFor 4 = .ok (.iload_n 3, 1) := by decide +kernel
theorem dX6_eligibleFor_5 : decode cX6_eligibleFor 5 = .ok (.aload_n 0, 1) := by decide +kernel
theorem dX6_eligibleFor_6 : decode cX6_eligibleFor 6 = .ok (.getfield 37, 3) := by decide +kernel
theorem dX6_eligibleFor_9 : decode cX6_eligibleFor 9 = .ok (.if_icmp .ge 29, 3) := by decide +kernel
theorem dX6_eligibleFor_12 : decode cX6_eligibleFor 12 = .ok (.aload_n 0, 1) := by decide +kernel
theorem dX6_eligibleFor_13 : decode cX6_eligibleFor 13 = .ok (.aload_n 0, 1) := by decide +kernel
theorem dX6_eligibleFor_14 : decode cX6_eligibleFor 14 = .ok (.getfield 19, 3) := by decide +kernel
theorem dX6_eligibleFor_17 : decode cX6_eligibleFor 17 = .ok (.iload_n 3, 1) := by decide +kernel
theorem dX6_eligibleFor_18 : decode cX6_eligibleFor 18 = .ok (.aaload, 1) := by decide +kernel
theorem dX6_eligibleFor_19 : decode cX6_eligibleFor 19 = .ok (.iload_n 1, 1) := by decide +kernel
theorem dX6_eligibleFor_20 : decode cX6_eligibleFor 20 = .ok (.invokevirtual 62, 3) := by decide +kernel
theorem dX6_eligibleFor_23 : decode cX6_eligibleFor 23 = .ok (.ifCond .eq 9, 3) := by decide +kernel
theorem dX6_eligibleFor_26 : decode cX6_eligibleFor 26 = .ok (.iload_n 2, 1) := by decide +kernel
theorem dX6_eligibleFor_27 : decode cX6_eligibleFor 27 = .ok (.iconst 1, 1) := by decide +kernel
theorem dX6_eligibleFor_28 : decode cX6_eligibleFor 28 = .ok (.iload_n 3, 1) := by decide +kernel
theorem dX6_eligibleFor_29 : decode cX6_eligibleFor 29 = .ok (.ishl, 1) := by decide +kernel
theorem dX6_eligibleFor_30 : decode cX6_eligibleFor 30 = .ok (.ior, 1) := by decide +kernel
theorem dX6_eligibleFor_31 : decode cX6_eligibleFor 31 = .ok (.istore_n 2, 1) := by decide +kernel
theorem dX6_eligibleFor_32 : decode cX6_eligibleFor 32 = .ok (.iinc 3 1, 3) := by decide +kernel
theorem dX6_eligibleFor_35 : decode cX6_eligibleFor 35 = .ok (.goto (-31), 3) := by decide +kernel
theorem dX6_eligibleFor_38 : decode cX6_eligibleFor 38 = .ok (.iload_n 2, 1) := by decide +kernel
theorem dX6_eligibleFor_39 : decode cX6_eligibleFor 39 = .ok (.ireturn, 1) := by decide +kernel
set_option maxRecDepth 20000 in
theorem ggX6_isEligible_X6_hasFlat : GoodIn wsX6_isEligible wsX6_hasFlat := goodIn_r _ [6, 7, 17, 18, 19, 20, 21, 22, 23, 24] (by decide +kernel) (by decide +kernel)
set_option maxRecDepth 20000 in
theorem gX6_isEligible_X6_hasFlat : GoodIn wsX6_isEligible (wsV RX6 66 RX6 yX6_hasFlat wsX6_hasFlat) := goodIn_app (goodIn_of _ (by decide +kernel)) ggX6_isEligible_X6_hasFlat
set_option maxRecDepth 20000 in
theorem ggX6_isEligible_X2_isEligibleFor : GoodIn wsX6_isEligible wsX2_isEligibleFor := goodIn_r _ [12, 13, 14, 15, 16, 25, 26, 27, 28, 29, 30, 31, 32, 33, 34, 35] (by decide +kernel) (by decide +kernel)
set_option maxRecDepth 20000 in
theorem gX6_isEligible_X2_isEligibleFor : GoodIn wsX6_isEligible (wsV RX6 70 RX2 yX2_isEligibleFor wsX2_isEligibleFor) := goodIn_app (goodIn_of _ (by decide +kernel)) ggX6_isEligible_X2_isEligibleFor
theorem dX6_isEligible_0 : decode cX6_isEligible 0 = .ok (.aload_n 0, 1) := by decide +kernel
theorem dX6_isEligible_1 : decode cX6_isEligible 1 = .ok (.iload_n 2, 1) := by decide +kernel
theorem dX6_isEligible_2 : decode cX6_isEligible 2 = .ok (.invokevirtual 66, 3) := by decide +kernel
theorem dX6_isEligible_5 : decode cX6_isEligible 5 = .ok (.ifCond .eq 20, 3) := by decide +kernel
theorem dX6_isEligible_8 : decode cX6_isEligible 8 = .ok (.aload_n 1, 1) := by decide +kernel
theorem dX6_isEligible_9 : decode cX6_isEligible 9 = .ok (.aload_n 0, 1) := by decide +kernel
theorem dX6_isEligible_10 : decode cX6_isEligible 10 = .ok (.getfield 11, 3) := by decide +kernel
theorem dX6_isEligible_13 : decode cX6_isEligible 13 = .ok (.iload_n 2, 1) := by decide +kernel
theorem dX6_isEligible_14 : decode cX6_isEligible 14 = .ok (.aaload, 1) := by decide +kernel
theorem dX6_isEligible_15 : decode cX6_isEligible 15 = .ok (.invokevirtual 70, 3) := by decide +kernel
theorem dX6_isEligible_18 : decode cX6_isEligible 18 = .ok (.ifCond .eq 7, 3) := by decide +kernel
theorem dX6_isEligible_21 : decode cX6_isEligible 21 = .ok (.iconst 1, 1) := by decide +kernel
theorem dX6_isEligible_22 : decode cX6_isEligible 22 = .ok (.goto 4, 3) := by decide +kernel
theorem dX6_isEligible_25 : decode cX6_isEligible 25 = .ok (.iconst 0, 1) := by decide +kernel
theorem dX6_isEligible_26 : decode cX6_isEligible 26 = .ok (.ireturn, 1) := by decide +kernel
theorem dX6_countHeld_0 : decode cX6_countHeld 0 = .ok (.iconst 0, 1) := by decide +kernel
theorem dX6_countHeld_1 : decode cX6_countHeld 1 = .ok (.istore_n 1, 1) := by decide +kernel
theorem dX6_countHeld_2 : decode cX6_countHeld 2 = .ok (.iconst 0, 1) := by decide +kernel
theorem dX6_countHeld_3 : decode cX6_countHeld 3 = .ok (.istore_n 2, 1) := by decide +kernel
theorem dX6_countHeld_4 : decode cX6_countHeld 4 = .ok (.iload_n 2, 1) := by decide +kernel
theorem dX6_countHeld_5 : decode cX6_countHeld 5 = .ok (.aload_n 0, 1) := by decide +kernel
theorem dX6_countHeld_6 : decode cX6_countHeld 6 = .ok (.getfield 37, 3) := by decide +kernel
theorem dX6_countHeld_9 : decode cX6_countHeld 9 = .ok (.if_icmp .ge 26, 3) := by decide +kernel
theorem dX6_countHeld_12 : decode cX6_countHeld 12 = .ok (.aload_n 0, 1) := by decide +kernel
theorem dX6_countHeld_13 : decode cX6_countHeld 13 = .ok (.getfield 19, 3) := by decide +kernel
theorem dX6_countHeld_16 : decode cX6_countHeld 16 = .ok (.iload_n 2, 1) := by decide +kernel
theorem dX6_countHeld_17 : decode cX6_countHeld 17 = .ok (.aaload, 1) := by decide +kernel
theorem dX6_countHeld_18 : decode cX6_countHeld 18 = .ok (.getfield 52, 3) := by decide +kernel
theorem dX6_countHeld_21 : decode cX6_countHeld 21 = .ok (.bipush (-5), 2) := by decide +kernel
theorem dX6_countHeld_23 : decode cX6_countHeld 23 = .ok (.if_icmp .eq 6, 3) := by decide +kernel
theorem dX6_countHeld_26 : decode cX6_countHeld 26 = .ok (.iinc 1 1, 3) := by decide +kernel
theorem dX6_countHeld_29 : decode cX6_countHeld 29 = .ok (.iinc 2 1, 3) := by decide +kernel
theorem dX6_countHeld_32 : decode cX6_countHeld 32 = .ok (.goto (-28), 3) := by decide +kernel
theorem dX6_countHeld_35 : decode cX6_countHeld 35 = .ok (.iload_n 1, 1) := by decide +kernel
theorem dX6_countHeld_36 : decode cX6_countHeld 36 = .ok (.ireturn, 1) := by decide +kernel
theorem dX6_countNumbered_0 : decode cX6_countNumbered 0 = .ok (.iconst 0, 1) := by decide +kernel
theorem dX6_countNumbered_1 : decode cX6_countNumbered 1 = .ok (.istore_n 1, 1) := by decide +kernel
theorem dX6_countNumbered_2 : decode cX6_countNumbered 2 = .ok (.iconst 0, 1) := by decide +kernel
theorem dX6_countNumbered_3 : decode cX6_countNumbered 3 = .ok (.istore_n 2, 1) := by decide +kernel
theorem dX6_countNumbered_4 : decode cX6_countNumbered 4 = .ok (.iload_n 2, 1) := by decide +kernel
theorem dX6_countNumbered_5 : decode cX6_countNumbered 5 = .ok (.aload_n 0, 1) := by decide +kernel
theorem dX6_countNumbered_6 : decode cX6_countNumbered 6 = .ok (.getfield 37, 3) := by decide +kernel
theorem dX6_countNumbered_9 : decode cX6_countNumbered 9 = .ok (.if_icmp .ge 26, 3) := by decide +kernel
theorem dX6_countNumbered_12 : decode cX6_countNumbered 12 = .ok (.aload_n 0, 1) := by decide +kernel
theorem dX6_countNumbered_13 : decode cX6_countNumbered 13 = .ok (.getfield 19, 3) := by decide +kernel
theorem dX6_countNumbered_16 : decode cX6_countNumbered 16 = .ok (.iload_n 2, 1) := by decide +kernel
theorem dX6_countNumbered_17 : decode cX6_countNumbered 17 = .ok (.aaload, 1) := by decide +kernel
theorem dX6_countNumbered_18 : decode cX6_countNumbered 18 = .ok (.getfield 55, 3) := by decide +kernel
theorem dX6_countNumbered_21 : decode cX6_countNumbered 21 = .ok (.bipush (-5), 2) := by decide +kernel
theorem dX6_countNumbered_23 : decode cX6_countNumbered 23 = .ok (.if_icmp .eq 6, 3) := by decide +kernel
theorem dX6_countNumbered_26 : decode cX6_countNumbered 26 = .ok (.iinc 1 1, 3) := by decide +kernel
theorem dX6_countNumbered_29 : decode cX6_countNumbered 29 = .ok (.iinc 2 1, 3) := by decide +kernel
theorem dX6_countNumbered_32 : decode cX6_countNumbered 32 = .ok (.goto (-28), 3) := by decide +kernel
theorem dX6_countNumbered_35 : decode cX6_countNumbered 35 = .ok (.iload_n 1, 1) := by decide +kernel
theorem dX6_countNumbered_36 : decode cX6_countNumbered 36 = .ok (.ireturn, 1) := by decide +kernel
theorem dX6_countAppeals_0 : decode cX6_countAppeals 0 = .ok (.iconst 0, 1) := by decide +kernel
theorem dX6_countAppeals_1 : decode cX6_countAppeals 1 = .ok (.istore_n 1, 1) := by decide +kernel
theorem dX6_countAppeals_2 : decode cX6_countAppeals 2 = .ok (.iconst 0, 1) := by decide +kernel
theorem dX6_countAppeals_3 : decode cX6_countAppeals 3 = .ok (.istore_n 2, 1) := by decide +kernel
theorem dX6_countAppeals_4 : decode cX6_countAppeals 4 = .ok (.iload_n 2, 1) := by decide +kernel
theorem dX6_countAppeals_5 : decode cX6_countAppeals 5 = .ok (.aload_n 0, 1) := by decide +kernel
theorem dX6_countAppeals_6 : decode cX6_countAppeals 6 = .ok (.getfield 37, 3) := by decide +kernel
theorem dX6_countAppeals_9 : decode cX6_countAppeals 9 = .ok (.if_icmp .ge 21, 3) := by decide +kernel
theorem dX6_countAppeals_12 : decode cX6_countAppeals 12 = .ok (.iload_n 1, 1) := by decide +kernel
theorem dX6_countAppeals_13 : decode cX6_countAppeals 13 = .ok (.aload_n 0, 1) := by decide +kernel
theorem dX6_countAppeals_14 : decode cX6_countAppeals 14 = .ok (.getfield 19, 3) := by decide +kernel
theorem dX6_countAppeals_17 : decode cX6_countAppeals 17 = .ok (.iload_n 2, 1) := by decide +kernel
theorem dX6_countAppeals_18 : decode cX6_countAppeals 18 = .ok (.aaload, 1) := by decide +kernel
theorem dX6_countAppeals_19 : decode cX6_countAppeals 19 = .ok (.getfield 74, 3) := by decide +kernel
theorem dX6_countAppeals_22 : decode cX6_countAppeals 22 = .ok (.iadd, 1) := by decide +kernel
theorem dX6_countAppeals_23 : decode cX6_countAppeals 23 = .ok (.istore_n 1, 1) := by decide +kernel
theorem dX6_countAppeals_24 : decode cX6_countAppeals 24 = .ok (.iinc 2 1, 3) := by decide +kernel
theorem dX6_countAppeals_27 : decode cX6_countAppeals 27 = .ok (.goto (-23), 3) := by decide +kernel
theorem dX6_countAppeals_30 : decode cX6_countAppeals 30 = .ok (.iload_n 1, 1) := by decide +kernel
theorem dX6_countAppeals_31 : decode cX6_countAppeals 31 = .ok (.ireturn, 1) := by decide +kernel
set_option maxRecDepth 20000 in
theorem ggX6_placeInOrder_X2_standsAheadOf : GoodIn wsX6_placeInOrder wsX2_standsAheadOf := goodIn_r _ [8, 9, 10, 11, 12, 13, 14, 15, 16, 17, 18, 19] (by decide +kernel) (by decide +kernel)
set_option maxRecDepth 20000 in
theorem gX6_placeInOrder_X2_standsAheadOf : GoodIn wsX6_placeInOrder (wsV RX6 77 RX2 yX2_standsAheadOf wsX2_standsAheadOf) := goodIn_app (goodIn_of _ (by decide +kernel)) ggX6_placeInOrder_X2_standsAheadOf
theorem dX6_placeInOrder_0 : decode cX6_placeInOrder 0 = .ok (.aload_n 1, 1) := by decide +kernel
theorem dX6_placeInOrder_1 : decode cX6_placeInOrder 1 = .ok (.getfield 55, 3) := by decide +kernel
theorem dX6_placeInOrder_4 : decode cX6_placeInOrder 4 = .ok (.bipush (-5), 2) := by decide +kernel
theorem dX6_placeInOrder_6 : decode cX6_placeInOrder 6 = .ok (.if_icmp .ne 6, 3) := by decide +kernel
theorem dX6_placeInOrder_9 : decode cX6_placeInOrder 9 = .ok (.bipush (-5), 2) := by decide +kernel
theorem dX6_placeInOrder_11 : decode cX6_placeInOrder 11 = .ok (.ireturn, 1) := by decide +kernel
theorem dX6_placeInOrder_12 : decode cX6_placeInOrder 12 = .ok (.iconst 0, 1) := by decide +kernel
theorem dX6_placeInOrder_13 : decode cX6_placeInOrder 13 = .ok (.istore_n 2, 1) := by decide +kernel
theorem dX6_placeInOrder_14 : decode cX6_placeInOrder 14 = .ok (.iconst 0, 1) := by decide +kernel
theorem dX6_placeInOrder_15 : decode cX6_placeInOrder 15 = .ok (.istore_n 3, 1) := by decide +kernel
theorem dX6_placeInOrder_16 : decode cX6_placeInOrder 16 = .ok (.iload_n 3, 1) := by decide +kernel
theorem dX6_placeInOrder_17 : decode cX6_placeInOrder 17 = .ok (.aload_n 0, 1) := by decide +kernel
theorem dX6_placeInOrder_18 : decode cX6_placeInOrder 18 = .ok (.getfield 37, 3) := by decide +kernel
theorem dX6_placeInOrder_21 : decode cX6_placeInOrder 21 = .ok (.if_icmp .ge 25, 3) := by decide +kernel
theorem dX6_placeInOrder_24 : decode cX6_placeInOrder 24 = .ok (.aload_n 0, 1) := by decide +kernel
theorem dX6_placeInOrder_25 : decode cX6_placeInOrder 25 = .ok (.getfield 19, 3) := by decide +kernel
theorem dX6_placeInOrder_28 : decode cX6_placeInOrder 28 = .ok (.iload_n 3, 1) := by decide +kernel
theorem dX6_placeInOrder_29 : decode cX6_placeInOrder 29 = .ok (.aaload, 1) := by decide +kernel
theorem dX6_placeInOrder_30 : decode cX6_placeInOrder 30 = .ok (.aload_n 1, 1) := by decide +kernel
theorem dX6_placeInOrder_31 : decode cX6_placeInOrder 31 = .ok (.invokevirtual 77, 3) := by decide +kernel
theorem dX6_placeInOrder_34 : decode cX6_placeInOrder 34 = .ok (.ifCond .eq 6, 3) := by decide +kernel
theorem dX6_placeInOrder_37 : decode cX6_placeInOrder 37 = .ok (.iinc 2 1, 3) := by decide +kernel
theorem dX6_placeInOrder_40 : decode cX6_placeInOrder 40 = .ok (.iinc 3 1, 3) := by decide +kernel
theorem dX6_placeInOrder_43 : decode cX6_placeInOrder 43 = .ok (.goto (-27), 3) := by decide +kernel
theorem dX6_placeInOrder_46 : decode cX6_placeInOrder 46 = .ok (.iload_n 2, 1) := by decide +kernel
theorem dX6_placeInOrder_47 : decode cX6_placeInOrder 47 = .ok (.ireturn, 1) := by decide +kernel
set_option maxRecDepth 20000 in
theorem ggX6_lineUp_X6_placeInOrder : GoodIn wsX6_lineUp wsX6_placeInOrder := goodIn_r _ [8, 9, 1, 2, 10, 11, 12, 13, 14, 15, 16, 25, 26, 27, 28, 29, 30, 31, 32, 33, 17, 18, 19, 20, 21, 22, 23, 24] (by decide +kernel) (by decide +kernel)
set_option maxRecDepth 20000 in
theorem gX6_lineUp_X6_placeInOrder : GoodIn wsX6_lineUp (wsV RX6 81 RX6 yX6_placeInOrder wsX6_placeInOrder) := goodIn_app (goodIn_of _ (by decide +kernel)) ggX6_lineUp_X6_placeInOrder
theorem dX6_lineUp_0 : decode cX6_lineUp 0 = .ok (.iconst 0, 1) := by decide +kernel
theorem dX6_lineUp_1 : decode cX6_lineUp 1 = .ok (.istore_n 1, 1) := by decide +kernel
theorem dX6_lineUp_2 : decode cX6_lineUp 2 = .ok (.iconst 0, 1) := by decide +kernel
theorem dX6_lineUp_3 : decode cX6_lineUp 3 = .ok (.istore_n 2, 1) := by decide +kernel
theorem dX6_lineUp_4 : decode cX6_lineUp 4 = .ok (.iload_n 2, 1) := by decide +kernel
theorem dX6_lineUp_5 : decode cX6_lineUp 5 = .ok (.aload_n 0, 1) := by decide +kernel
theorem dX6_lineUp_6 : decode cX6_lineUp 6 = .ok (.getfield 37, 3) := by decide +kernel
theorem dX6_lineUp_9 : decode cX6_lineUp 9 = .ok (.if_icmp .ge 40, 3) := by decide +kernel
theorem dX6_lineUp_12 : decode cX6_lineUp 12 = .ok (.aload_n 0, 1) := by decide +kernel
theorem dX6_lineUp_13 : decode cX6_lineUp 13 = .ok (.aload_n 0, 1) := by decide +kernel
theorem dX6_lineUp_14 : decode cX6_lineUp 14 = .ok (.getfield 19, 3) := by decide +kernel
theorem dX6_lineUp_17 : decode cX6_lineUp 17 = .ok (.iload_n 2, 1) := by decide +kernel
theorem dX6_lineUp_18 : decode cX6_lineUp 18 = .ok (.aaload, 1) := by decide +kernel
theorem dX6_lineUp_19 : decode cX6_lineUp 19 = .ok (.invokevirtual 81, 3) := by decide +kernel
theorem dX6_lineUp_22 : decode cX6_lineUp 22 = .ok (.istore_n 3, 1) := by decide +kernel
theorem dX6_lineUp_23 : decode cX6_lineUp 23 = .ok (.iload_n 3, 1) := by decide +kernel
theorem dX6_lineUp_24 : decode cX6_lineUp 24 = .ok (.ifCond .lt 19, 3) := by decide +kernel
theorem dX6_lineUp_27 : decode cX6_lineUp 27 = .ok (.iload_n 3, 1) := by decide +kernel
theorem dX6_lineUp_28 : decode cX6_lineUp 28 = .ok (.bipush 12, 2) := by decide +kernel
theorem dX6_lineUp_30 : decode cX6_lineUp 30 = .ok (.if_icmp .ge 13, 3) := by decide +kernel
theorem dX6_lineUp_33 : decode cX6_lineUp 33 = .ok (.aload_n 0, 1) := by decide +kernel
theorem dX6_lineUp_34 : decode cX6_lineUp 34 = .ok (.getfield 23, 3) := by decide +kernel
theorem dX6_lineUp_37 : decode cX6_lineUp 37 = .ok (.iload_n 3, 1) := by decide +kernel
theorem dX6_lineUp_38 : decode cX6_lineUp 38 = .ok (.iload_n 2, 1) := by decide +kernel
theorem dX6_lineUp_39 : decode cX6_lineUp 39 = .ok (.iastore, 1) := by decide +kernel
theorem dX6_lineUp_40 : decode cX6_lineUp 40 = .ok (.iinc 1 1, 3) := by decide +kernel
theorem dX6_lineUp_43 : decode cX6_lineUp 43 = .ok (.iinc 2 1, 3) := by decide +kernel
theorem dX6_lineUp_46 : decode cX6_lineUp 46 = .ok (.goto (-42), 3) := by decide +kernel
theorem dX6_lineUp_49 : decode cX6_lineUp 49 = .ok (.iload_n 1, 1) := by decide +kernel
theorem dX6_lineUp_50 : decode cX6_lineUp 50 = .ok (.ireturn, 1) := by decide +kernel
set_option maxRecDepth 20000 in
theorem ggX6_giveFlatsInOrder_X6_heldFlats : GoodIn wsX6_giveFlatsInOrder wsX6_heldFlats := goodIn_r _ [9, 10, 1, 3, 51, 52, 53, 54, 55, 56, 57, 58, 59, 60, 61, 62, 63, 64, 65, 66, 67] (by decide +kernel) (by decide +kernel)
set_option maxRecDepth 20000 in
theorem gX6_giveFlatsInOrder_X6_heldFlats : GoodIn wsX6_giveFlatsInOrder (wsV RX6 85 RX6 yX6_heldFlats wsX6_heldFlats) := goodIn_app (goodIn_of _ (by decide +kernel)) ggX6_giveFlatsInOrder_X6_heldFlats
set_option maxRecDepth 20000 in
theorem ggX6_giveFlatsInOrder_X6_lineUp : GoodIn wsX6_giveFlatsInOrder wsX6_lineUp := goodIn_r _ [14, 10, 1, 2, 15, 16, 17, 8, 18, 19, 20, 21, 22, 23, 24, 25, 26, 51, 52, 53, 54, 55, 56, 57, 58, 59, 60, 61, 62, 63, 64, 65, 66, 67] (by decide +kernel) (by decide +kernel)
set_option maxRecDepth 20000 in
theorem gX6_giveFlatsInOrder_X6_lineUp : GoodIn wsX6_giveFlatsInOrder (wsV RX6 89 RX6 yX6_lineUp wsX6_lineUp) := goodIn_app (goodIn_of _ (by decide +kernel)) ggX6_giveFlatsInOrder_X6_lineUp
set_option maxRecDepth 20000 in
theorem ggX6_giveFlatsInOrder_X6_firstWishOutside : GoodIn wsX6_giveFlatsInOrder wsX6_firstWishOutside := goodIn_r _ [30, 31, 32, 33, 34, 35, 8, 36, 37, 38, 39, 40, 41, 42, 43, 44, 45, 23, 46, 47, 48, 49, 50, 59, 60, 61, 62, 63, 64, 65, 66, 67, 51, 52, 53, 54, 55, 56, 57, 58, 68, 69] (by decide +kernel) (by decide +kernel)
set_option maxRecDepth 20000 in
theorem gX6_giveFlatsInOrder_X6_firstWishOutside : GoodIn wsX6_giveFlatsInOrder (wsV RX6 92 RX6 yX6_firstWishOutside wsX6_firstWishOutside) := goodIn_app (goodIn_of _ (by decide +kernel)) ggX6_giveFlatsInOrder_X6_firstWishOutside
theorem dX6_giveFlatsInOrder_0 : decode cX6_giveFlatsInOrder 0 = .ok (.iconst 0, 1) := by decide +kernel
theorem dX6_giveFlatsInOrder_1 : decode cX6_giveFlatsInOrder 1 = .ok (.istore_n 1, 1) := by decide +kernel
theorem dX6_giveFlatsInOrder_2 : decode cX6_giveFlatsInOrder 2 = .ok (.aload_n 0, 1) := by decide +kernel
theorem dX6_giveFlatsInOrder_3 : decode cX6_giveFlatsInOrder 3 = .ok (.invokevirtual 85, 3) := by decide +kernel
theorem dX6_giveFlatsInOrder_6 : decode cX6_giveFlatsInOrder 6 = .ok (.istore_n 2, 1) := by decide +kernel
theorem dX6_giveFlatsInOrder_7 : decode cX6_giveFlatsInOrder 7 = .ok (.aload_n 0, 1) := by decide +kernel
theorem dX6_giveFlatsInOrder_8 : decode cX6_giveFlatsInOrder 8 = .ok (.invokevirtual 89, 3) := by decide +kernel
theorem dX6_giveFlatsInOrder_11 : decode cX6_giveFlatsInOrder 11 = .ok (.istore_n 3, 1) := by decide +kernel
theorem dX6_giveFlatsInOrder_12 : decode cX6_giveFlatsInOrder 12 = .ok (.iconst 0, 1) := by decide +kernel
theorem dX6_giveFlatsInOrder_13 : decode cX6_giveFlatsInOrder 13 = .ok (.istore 4, 2) := by decide +kernel
theorem dX6_giveFlatsInOrder_15 : decode cX6_giveFlatsInOrder 15 = .ok (.iload 4, 2) := by decide +kernel
theorem dX6_giveFlatsInOrder_17 : decode cX6_giveFlatsInOrder 17 = .ok (.iload_n 3, 1) := by decide +kernel
theorem dX6_giveFlatsInOrder_18 : decode cX6_giveFlatsInOrder 18 = .ok (.if_icmp .ge 83, 3) := by decide +kernel
theorem dX6_giveFlatsInOrder_21 : decode cX6_giveFlatsInOrder 21 = .ok (.aload_n 0, 1) := by decide +kernel
theorem dX6_giveFlatsInOrder_22 : decode cX6_giveFlatsInOrder 22 = .ok (.getfield 19, 3) := by decide +kernel
theorem dX6_giveFlatsInOrder_25 : decode cX6_giveFlatsInOrder 25 = .ok (.aload_n 0, 1) := by decide +kernel
theorem dX6_giveFlatsInOrder_26 : decode cX6_giveFlatsInOrder 26 = .ok (.getfield 23, 3) := by decide +kernel
theorem dX6_giveFlatsInOrder_29 : decode cX6_giveFlatsInOrder 29 = .ok (.iload 4, 2) := by decide +kernel
theorem dX6_giveFlatsInOrder_31 : decode cX6_giveFlatsInOrder 31 = .ok (.iaload, 1) := by decide +kernel
theorem dX6_giveFlatsInOrder_32 : decode cX6_giveFlatsInOrder 32 = .ok (.aaload, 1) := by decide +kernel
theorem dX6_giveFlatsInOrder_33 : decode cX6_giveFlatsInOrder 33 = .ok (.astore 5, 2) := by decide +kernel
theorem dX6_giveFlatsInOrder_35 : decode cX6_giveFlatsInOrder 35 = .ok (.aload 5, 2) := by decide +kernel
theorem dX6_giveFlatsInOrder_37 : decode cX6_giveFlatsInOrder 37 = .ok (.getfield 52, 3) := by decide +kernel
theorem dX6_giveFlatsInOrder_40 : decode cX6_giveFlatsInOrder 40 = .ok (.bipush (-5), 2) := by decide +kernel
theorem dX6_giveFlatsInOrder_42 : decode cX6_giveFlatsInOrder 42 = .ok (.if_icmp .eq 6, 3) := by decide +kernel
theorem dX6_giveFlatsInOrder_45 : decode cX6_giveFlatsInOrder 45 = .ok (.goto 50, 3) := by decide +kernel
theorem dX6_giveFlatsInOrder_48 : decode cX6_giveFlatsInOrder 48 = .ok (.aload_n 0, 1) := by decide +kernel
theorem dX6_giveFlatsInOrder_49 : decode cX6_giveFlatsInOrder 49 = .ok (.iload_n 2, 1) := by decide +kernel
theorem dX6_giveFlatsInOrder_50 : decode cX6_giveFlatsInOrder 50 = .ok (.aload 5, 2) := by decide +kernel
theorem dX6_giveFlatsInOrder_52 : decode cX6_giveFlatsInOrder 52 = .ok (.invokevirtual 92, 3) := by decide +kernel
theorem dX6_giveFlatsInOrder_55 : decode cX6_giveFlatsInOrder 55 = .ok (.istore 6, 2) := by decide +kernel
theorem dX6_giveFlatsInOrder_57 : decode cX6_giveFlatsInOrder 57 = .ok (.iload 6, 2) := by decide +kernel
theorem dX6_giveFlatsInOrder_59 : decode cX6_giveFlatsInOrder 59 = .ok (.bipush (-5), 2) := by decide +kernel
theorem dX6_giveFlatsInOrder_61 : decode cX6_giveFlatsInOrder 61 = .ok (.if_icmp .ne 17, 3) := by decide +kernel
theorem dX6_giveFlatsInOrder_64 : decode cX6_giveFlatsInOrder 64 = .ok (.aload 5, 2) := by decide +kernel
theorem dX6_giveFlatsInOrder_66 : decode cX6_giveFlatsInOrder 66 = .ok (.dup, 1) := by decide +kernel
theorem dX6_giveFlatsInOrder_67 : decode cX6_giveFlatsInOrder 67 = .ok (.getfield 96, 3) := by decide +kernel
theorem dX6_giveFlatsInOrder_70 : decode cX6_giveFlatsInOrder 70 = .ok (.iconst 1, 1) := by decide +kernel
theorem dX6_giveFlatsInOrder_71 : decode cX6_giveFlatsInOrder 71 = .ok (.iadd, 1) := by decide +kernel
theorem dX6_giveFlatsInOrder_72 : decode cX6_giveFlatsInOrder 72 = .ok (.putfield 96, 3) := by decide +kernel
theorem dX6_giveFlatsInOrder_75 : decode cX6_giveFlatsInOrder 75 = .ok (.goto 20, 3) := by decide +kernel
theorem dX6_giveFlatsInOrder_78 : decode cX6_giveFlatsInOrder 78 = .ok (.aload 5, 2) := by decide +kernel
theorem dX6_giveFlatsInOrder_80 : decode cX6_giveFlatsInOrder 80 = .ok (.iload 6, 2) := by decide +kernel
theorem dX6_giveFlatsInOrder_82 : decode cX6_giveFlatsInOrder 82 = .ok (.putfield 52, 3) := by decide +kernel
theorem dX6_giveFlatsInOrder_85 : decode cX6_giveFlatsInOrder 85 = .ok (.iload_n 2, 1) := by decide +kernel
theorem dX6_giveFlatsInOrder_86 : decode cX6_giveFlatsInOrder 86 = .ok (.iconst 1, 1) := by decide +kernel
theorem dX6_giveFlatsInOrder_87 : decode cX6_giveFlatsInOrder 87 = .ok (.iload 6, 2) := by decide +kernel
theorem dX6_giveFlatsInOrder_89 : decode cX6_giveFlatsInOrder 89 = .ok (.ishl, 1) := by decide +kernel
theorem dX6_giveFlatsInOrder_90 : decode cX6_giveFlatsInOrder 90 = .ok (.ior, 1) := by decide +kernel
theorem dX6_giveFlatsInOrder_91 : decode cX6_giveFlatsInOrder 91 = .ok (.istore_n 2, 1) := by decide +kernel
theorem dX6_giveFlatsInOrder_92 : decode cX6_giveFlatsInOrder 92 = .ok (.iinc 1 1, 3) := by decide +kernel
theorem dX6_giveFlatsInOrder_95 : decode cX6_giveFlatsInOrder 95 = .ok (.iinc 4 1, 3) := by decide +kernel
theorem dX6_giveFlatsInOrder_98 : decode cX6_giveFlatsInOrder 98 = .ok (.goto (-83), 3) := by decide +kernel
theorem dX6_giveFlatsInOrder_101 : decode cX6_giveFlatsInOrder 101 = .ok (.iload_n 1, 1) := by decide +kernel
theorem dX6_giveFlatsInOrder_102 : decode cX6_giveFlatsInOrder 102 = .ok (.ireturn, 1) := by decide +kernel
set_option maxRecDepth 20000 in
theorem ggX6_flatIfAllWereFree_X6_lineUp : GoodIn wsX6_flatIfAllWereFree wsX6_lineUp := goodIn_r _ [7, 8, 2, 1, 9, 10, 11, 6, 12, 13, 14, 15, 16, 17, 18, 19, 20, 45, 46, 47, 48, 49, 50, 51, 52, 53, 54, 55, 56, 57, 58, 59, 60, 61] (by decide +kernel) (by decide +kernel)
set_option maxRecDepth 20000 in
theorem gX6_flatIfAllWereFree_X6_lineUp : GoodIn wsX6_flatIfAllWereFree (wsV RX6 89 RX6 yX6_lineUp wsX6_lineUp) := goodIn_app (goodIn_of _ (by decide +kernel)) ggX6_flatIfAllWereFree_X6_lineUp
set_option maxRecDepth 20000 in
theorem ggX6_flatIfAllWereFree_X6_firstWishOutside : GoodIn wsX6_flatIfAllWereFree wsX6_firstWishOutside := goodIn_r _ [24, 25, 26, 27, 28, 29, 6, 30, 31, 32, 33, 34, 35, 36, 37, 38, 39, 17, 40, 41, 42, 43, 44, 53, 54, 55, 56, 57, 58, 59, 60, 61, 45, 46, 47, 48, 49, 50, 51, 52, 62, 63] (by decide +kernel) (by decide +kernel)
set_option maxRecDepth 20000 in
theorem gX6_flatIfAllWereFree_X6_firstWishOutside : GoodIn wsX6_flatIfAllWereFree (wsV RX6 92 RX6 yX6_firstWishOutside wsX6_firstWishOutside) := goodIn_app (goodIn_of _ (by decide +kernel)) ggX6_flatIfAllWereFree_X6_firstWishOutside
theorem dX6_flatIfAllWereFree_0 : decode cX6_flatIfAllWereFree 0 = .ok (.iconst 0, 1) := by decide +kernel
theorem dX6_flatIfAllWereFree_1 : decode cX6_flatIfAllWereFree 1 = .ok (.istore_n 3, 1) := by decide +kernel
theorem dX6_flatIfAllWereFree_2 : decode cX6_flatIfAllWereFree 2 = .ok (.aload_n 0, 1) := by decide +kernel
theorem dX6_flatIfAllWereFree_3 : decode cX6_flatIfAllWereFree 3 = .ok (.invokevirtual 89, 3) := by decide +kernel
theorem dX6_flatIfAllWereFree_6 : decode cX6_flatIfAllWereFree 6 = .ok (.istore 4, 2) := by decide +kernel
theorem dX6_flatIfAllWereFree_8 : decode cX6_flatIfAllWereFree 8 = .ok (.iconst 0, 1) := by decide +kernel
theorem dX6_flatIfAllWereFree_9 : decode cX6_flatIfAllWereFree 9 = .ok (.istore 5, 2) := by decide +kernel
theorem dX6_flatIfAllWereFree_11 : decode cX6_flatIfAllWereFree 11 = .ok (.iload 5, 2) := by decide +kernel
theorem dX6_flatIfAllWereFree_13 : decode cX6_flatIfAllWereFree 13 = .ok (.iload 4, 2) := by decide +kernel
theorem dX6_flatIfAllWereFree_15 : decode cX6_flatIfAllWereFree 15 = .ok (.if_icmp .ge 64, 3) := by decide +kernel
theorem dX6_flatIfAllWereFree_18 : decode cX6_flatIfAllWereFree 18 = .ok (.aload_n 0, 1) := by decide +kernel
theorem dX6_flatIfAllWereFree_19 : decode cX6_flatIfAllWereFree 19 = .ok (.getfield 23, 3) := by decide +kernel
theorem dX6_flatIfAllWereFree_22 : decode cX6_flatIfAllWereFree 22 = .ok (.iload 5, 2) := by decide +kernel
theorem dX6_flatIfAllWereFree_24 : decode cX6_flatIfAllWereFree 24 = .ok (.iaload, 1) := by decide +kernel
theorem dX6_flatIfAllWereFree_25 : decode cX6_flatIfAllWereFree 25 = .ok (.istore 6, 2) := by decide +kernel
theorem dX6_flatIfAllWereFree_27 : decode cX6_flatIfAllWereFree 27 = .ok (.iload 6, 2) := by decide +kernel
theorem dX6_flatIfAllWereFree_29 : decode cX6_flatIfAllWereFree 29 = .ok (.iload_n 2, 1) := by decide +kernel
theorem dX6_flatIfAllWereFree_30 : decode cX6_flatIfAllWereFree 30 = .ok (.if_icmp .ne 6, 3) := by decide +kernel
theorem dX6_flatIfAllWereFree_33 : decode cX6_flatIfAllWereFree 33 = .ok (.goto 40, 3) := by decide +kernel
theorem dX6_flatIfAllWereFree_36 : decode cX6_flatIfAllWereFree 36 = .ok (.aload_n 0, 1) := by decide +kernel
theorem dX6_flatIfAllWereFree_37 : decode cX6_flatIfAllWereFree 37 = .ok (.iload_n 3, 1) := by decide +kernel
theorem dX6_flatIfAllWereFree_38 : decode cX6_flatIfAllWereFree 38 = .ok (.aload_n 0, 1) := by decide +kernel
theorem dX6_flatIfAllWereFree_39 : decode cX6_flatIfAllWereFree 39 = .ok (.getfield 19, 3) := by decide +kernel
theorem dX6_flatIfAllWereFree_42 : decode cX6_flatIfAllWereFree 42 = .ok (.iload 6, 2) := by decide +kernel
theorem dX6_flatIfAllWereFree_44 : decode cX6_flatIfAllWereFree 44 = .ok (.aaload, 1) := by decide +kernel
theorem dX6_flatIfAllWereFree_45 : decode cX6_flatIfAllWereFree 45 = .ok (.invokevirtual 92, 3) := by decide +kernel
theorem dX6_flatIfAllWereFree_48 : decode cX6_flatIfAllWereFree 48 = .ok (.istore 7, 2) := by decide +kernel
theorem dX6_flatIfAllWereFree_50 : decode cX6_flatIfAllWereFree 50 = .ok (.iload 6, 2) := by decide +kernel
theorem dX6_flatIfAllWereFree_52 : decode cX6_flatIfAllWereFree 52 = .ok (.iload_n 1, 1) := by decide +kernel
theorem dX6_flatIfAllWereFree_53 : decode cX6_flatIfAllWereFree 53 = .ok (.if_icmp .ne 6, 3) := by decide +kernel
theorem dX6_flatIfAllWereFree_56 : decode cX6_flatIfAllWereFree 56 = .ok (.iload 7, 2) := by decide +kernel
theorem dX6_flatIfAllWereFree_58 : decode cX6_flatIfAllWereFree 58 = .ok (.ireturn, 1) := by decide +kernel
theorem dX6_flatIfAllWereFree_59 : decode cX6_flatIfAllWereFree 59 = .ok (.iload 7, 2) := by decide +kernel
theorem dX6_flatIfAllWereFree_61 : decode cX6_flatIfAllWereFree 61 = .ok (.bipush (-5), 2) := by decide +kernel
theorem dX6_flatIfAllWereFree_63 : decode cX6_flatIfAllWereFree 63 = .ok (.if_icmp .eq 10, 3) := by decide +kernel
theorem dX6_flatIfAllWereFree_66 : decode cX6_flatIfAllWereFree 66 = .ok (.iload_n 3, 1) := by decide +kernel
theorem dX6_flatIfAllWereFree_67 : decode cX6_flatIfAllWereFree 67 = .ok (.iconst 1, 1) := by decide +kernel
theorem dX6_flatIfAllWereFree_68 : decode cX6_flatIfAllWereFree 68 = .ok (.iload 7, 2) := by decide +kernel
theorem dX6_flatIfAllWereFree_70 : decode cX6_flatIfAllWereFree 70 = .ok (.ishl, 1) := by decide +kernel
theorem dX6_flatIfAllWereFree_71 : decode cX6_flatIfAllWereFree 71 = .ok (.ior, 1) := by decide +kernel
theorem dX6_flatIfAllWereFree_72 : decode cX6_flatIfAllWereFree 72 = .ok (.istore_n 3, 1) := by decide +kernel
theorem dX6_flatIfAllWereFree_73 : decode cX6_flatIfAllWereFree 73 = .ok (.iinc 5 1, 3) := by decide +kernel
theorem dX6_flatIfAllWereFree_76 : decode cX6_flatIfAllWereFree 76 = .ok (.goto (-65), 3) := by decide +kernel
theorem dX6_flatIfAllWereFree_79 : decode cX6_flatIfAllWereFree 79 = .ok (.bipush (-5), 2) := by decide +kernel
theorem dX6_flatIfAllWereFree_81 : decode cX6_flatIfAllWereFree 81 = .ok (.ireturn, 1) := by decide +kernel
theorem dX6_heldFlats_0 : decode cX6_heldFlats 0 = .ok (.iconst 0, 1) := by decide +kernel
theorem dX6_heldFlats_1 : decode cX6_heldFlats 1 = .ok (.istore_n 1, 1) := by decide +kernel
theorem dX6_heldFlats_2 : decode cX6_heldFlats 2 = .ok (.iconst 0, 1) := by decide +kernel
theorem dX6_heldFlats_3 : decode cX6_heldFlats 3 = .ok (.istore_n 2, 1) := by decide +kernel
theorem dX6_heldFlats_4 : decode cX6_heldFlats 4 = .ok (.iload_n 2, 1) := by decide +kernel
theorem dX6_heldFlats_5 : decode cX6_heldFlats 5 = .ok (.aload_n 0, 1) := by decide +kernel
theorem dX6_heldFlats_6 : decode cX6_heldFlats 6 = .ok (.getfield 37, 3) := by decide +kernel
theorem dX6_heldFlats_9 : decode cX6_heldFlats 9 = .ok (.if_icmp .ge 31, 3) := by decide +kernel
theorem dX6_heldFlats_12 : decode cX6_heldFlats 12 = .ok (.aload_n 0, 1) := by decide +kernel
theorem dX6_heldFlats_13 : decode cX6_heldFlats 13 = .ok (.getfield 19, 3) := by decide +kernel
theorem dX6_heldFlats_16 : decode cX6_heldFlats 16 = .ok (.iload_n 2, 1) := by decide +kernel
theorem dX6_heldFlats_17 : decode cX6_heldFlats 17 = .ok (.aaload, 1) := by decide +kernel
theorem dX6_heldFlats_18 : decode cX6_heldFlats 18 = .ok (.getfield 52, 3) := by decide +kernel
theorem dX6_heldFlats_21 : decode cX6_heldFlats 21 = .ok (.istore_n 3, 1) := by decide +kernel
theorem dX6_heldFlats_22 : decode cX6_heldFlats 22 = .ok (.iload_n 3, 1) := by decide +kernel
theorem dX6_heldFlats_23 : decode cX6_heldFlats 23 = .ok (.bipush (-5), 2) := by decide +kernel
theorem dX6_heldFlats_25 : decode cX6_heldFlats 25 = .ok (.if_icmp .eq 9, 3) := by decide +kernel
theorem dX6_heldFlats_28 : decode cX6_heldFlats 28 = .ok (.iload_n 1, 1) := by decide +kernel
theorem dX6_heldFlats_29 : decode cX6_heldFlats 29 = .ok (.iconst 1, 1) := by decide +kernel
theorem dX6_heldFlats_30 : decode cX6_heldFlats 30 = .ok (.iload_n 3, 1) := by decide +kernel
theorem dX6_heldFlats_31 : decode cX6_heldFlats 31 = .ok (.ishl, 1) := by decide +kernel
theorem dX6_heldFlats_32 : decode cX6_heldFlats 32 = .ok (.ior, 1) := by decide +kernel
theorem dX6_heldFlats_33 : decode cX6_heldFlats 33 = .ok (.istore_n 1, 1) := by decide +kernel
theorem dX6_heldFlats_34 : decode cX6_heldFlats 34 = .ok (.iinc 2 1, 3) := by decide +kernel
theorem dX6_heldFlats_37 : decode cX6_heldFlats 37 = .ok (.goto (-33), 3) := by decide +kernel
theorem dX6_heldFlats_40 : decode cX6_heldFlats 40 = .ok (.iload_n 1, 1) := by decide +kernel
theorem dX6_heldFlats_41 : decode cX6_heldFlats 41 = .ok (.ireturn, 1) := by decide +kernel
set_option maxRecDepth 20000 in
theorem ggX6_firstWishOutside_X6_isEligible : GoodIn wsX6_firstWishOutside wsX6_isEligible := goodIn_r _ [7, 8, 9, 10, 11, 6, 12, 13, 14, 15, 16, 17, 18, 19, 20, 21, 22, 32, 33, 34, 35, 36, 37, 38, 39, 23, 24, 25, 26, 27, 28, 29, 30, 31, 40, 41] (by decide +kernel) (by decide +kernel)
set_option maxRecDepth 20000 in
theorem gX6_firstWishOutside_X6_isEligible : GoodIn wsX6_firstWishOutside (wsV RX6 62 RX6 yX6_isEligible wsX6_isEligible) := goodIn_app (goodIn_of _ (by decide +kernel)) ggX6_firstWishOutside_X6_isEligible
theorem dX6_firstWishOutside_0 : decode cX6_firstWishOutside 0 = .ok (.iconst 0, 1) := by decide +kernel
theorem dX6_firstWishOutside_1 : decode cX6_firstWishOutside 1 = .ok (.istore_n 3, 1) := by decide +kernel
theorem dX6_firstWishOutside_2 : decode cX6_firstWishOutside 2 = .ok (.iload_n 3, 1) := by decide +kernel
theorem dX6_firstWishOutside_3 : decode cX6_firstWishOutside 3 = .ok (.aload_n 2, 1) := by decide +kernel
theorem dX6_firstWishOutside_4 : decode cX6_firstWishOutside 4 = .ok (.getfield 99, 3) := by decide +kernel
theorem dX6_firstWishOutside_7 : decode cX6_firstWishOutside 7 = .ok (.if_icmp .ge 39, 3) := by decide +kernel
theorem dX6_firstWishOutside_10 : decode cX6_firstWishOutside 10 = .ok (.aload_n 2, 1) := by decide +kernel
theorem dX6_firstWishOutside_11 : decode cX6_firstWishOutside 11 = .ok (.getfield 102, 3) := by decide +kernel
theorem dX6_firstWishOutside_14 : decode cX6_firstWishOutside 14 = .ok (.iload_n 3, 1) := by decide +kernel
theorem dX6_firstWishOutside_15 : decode cX6_firstWishOutside 15 = .ok (.iaload, 1) := by decide +kernel
theorem dX6_firstWishOutside_16 : decode cX6_firstWishOutside 16 = .ok (.istore 4, 2) := by decide +kernel
theorem dX6_firstWishOutside_18 : decode cX6_firstWishOutside 18 = .ok (.iload_n 1, 1) := by decide +kernel
theorem dX6_firstWishOutside_19 : decode cX6_firstWishOutside 19 = .ok (.iload 4, 2) := by decide +kernel
theorem dX6_firstWishOutside_21 : decode cX6_firstWishOutside 21 = .ok (.ishr, 1) := by decide +kernel
theorem dX6_firstWishOutside_22 : decode cX6_firstWishOutside 22 = .ok (.iconst 1, 1) := by decide +kernel
theorem dX6_firstWishOutside_23 : decode cX6_firstWishOutside 23 = .ok (.iand, 1) := by decide +kernel
theorem dX6_firstWishOutside_24 : decode cX6_firstWishOutside 24 = .ok (.ifCond .ne 16, 3) := by decide +kernel
theorem dX6_firstWishOutside_27 : decode cX6_firstWishOutside 27 = .ok (.aload_n 0, 1) := by decide +kernel
theorem dX6_firstWishOutside_28 : decode cX6_firstWishOutside 28 = .ok (.aload_n 2, 1) := by decide +kernel
theorem dX6_firstWishOutside_29 : decode cX6_firstWishOutside 29 = .ok (.iload 4, 2) := by decide +kernel
theorem dX6_firstWishOutside_31 : decode cX6_firstWishOutside 31 = .ok (.invokevirtual 62, 3) := by decide +kernel
theorem dX6_firstWishOutside_34 : decode cX6_firstWishOutside 34 = .ok (.ifCond .eq 6, 3) := by decide +kernel
theorem dX6_firstWishOutside_37 : decode cX6_firstWishOutside 37 = .ok (.iload 4, 2) := by decide +kernel
theorem dX6_firstWishOutside_39 : decode cX6_firstWishOutside 39 = .ok (.ireturn, 1) := by decide +kernel
theorem dX6_firstWishOutside_40 : decode cX6_firstWishOutside 40 = .ok (.iinc 3 1, 3) := by decide +kernel
theorem dX6_firstWishOutside_43 : decode cX6_firstWishOutside 43 = .ok (.goto (-41), 3) := by decide +kernel
theorem dX6_firstWishOutside_46 : decode cX6_firstWishOutside 46 = .ok (.bipush (-5), 2) := by decide +kernel
theorem dX6_firstWishOutside_48 : decode cX6_firstWishOutside 48 = .ok (.ireturn, 1) := by decide +kernel
set_option maxRecDepth 20000 in
theorem ggX6_reasonHolds_X6_isPassedOver : GoodIn wsX6_reasonHolds wsX6_isPassedOver := goodIn_r _ [5, 6, 7, 8, 61, 62, 63, 64, 65, 66, 67, 68, 69] (by decide +kernel) (by decide +kernel)
set_option maxRecDepth 20000 in
theorem gX6_reasonHolds_X6_isPassedOver : GoodIn wsX6_reasonHolds (wsV RX6 105 RX6 yX6_isPassedOver wsX6_isPassedOver) := goodIn_app (goodIn_of _ (by decide +kernel)) ggX6_reasonHolds_X6_isPassedOver
set_option maxRecDepth 20000 in
theorem ggX6_reasonHolds_X6_isCrowded : GoodIn wsX6_reasonHolds wsX6_isCrowded := goodIn_r _ [12, 7, 13, 14, 15, 16, 17, 18, 4, 19, 20, 61, 62, 63, 64, 65, 66, 67, 68, 69, 70, 71, 72, 73, 74, 75, 76, 77, 78, 79] (by decide +kernel) (by decide +kernel)
set_option maxRecDepth 20000 in
theorem gX6_reasonHolds_X6_isCrowded : GoodIn wsX6_reasonHolds (wsV RX6 108 RX6 yX6_isCrowded wsX6_isCrowded) := goodIn_app (goodIn_of _ (by decide +kernel)) ggX6_reasonHolds_X6_isCrowded
set_option maxRecDepth 20000 in
theorem ggX6_reasonHolds_X6_isWronged : GoodIn wsX6_reasonHolds wsX6_isWronged := goodIn_r _ [24, 25, 26, 27, 28, 29, 4, 30, 7, 31, 32, 33, 34, 35, 36, 37, 38, 39, 40, 41, 42, 43, 44, 45, 46, 14, 16, 17, 18, 19, 20, 47, 48, 49, 50, 51, 52, 53, 54, 55, 56, 57, 58, 59, 60, 70, 71, 72, 73, 74, 75, 76, 77, 61, 62, 63, 64, 65, 66, 67, 68, 69, 78, 79] (by decide +kernel) (by decide +kernel)
set_option maxRecDepth 20000 in
theorem gX6_reasonHolds_X6_isWronged : GoodIn wsX6_reasonHolds (wsV RX6 111 RX6 yX6_isWronged wsX6_isWronged) := goodIn_app (goodIn_of _ (by decide +kernel)) ggX6_reasonHolds_X6_isWronged
theorem dX6_reasonHolds_0 : decode cX6_reasonHolds 0 = .ok (.iload_n 2, 1) := by decide +kernel
theorem dX6_reasonHolds_1 : decode cX6_reasonHolds 1 = .ok (.lookupswitch 39 #[(0, 27), (1, 33)], 27) := by decide +kernel
theorem dX6_reasonHolds_28 : decode cX6_reasonHolds 28 = .ok (.aload_n 0, 1) := by decide +kernel
theorem dX6_reasonHolds_29 : decode cX6_reasonHolds 29 = .ok (.aload_n 1, 1) := by decide +kernel
theorem dX6_reasonHolds_30 : decode cX6_reasonHolds 30 = .ok (.invokevirtual 105, 3) := by decide +kernel
theorem dX6_reasonHolds_33 : decode cX6_reasonHolds 33 = .ok (.ireturn, 1) := by decide +kernel
theorem dX6_reasonHolds_34 : decode cX6_reasonHolds 34 = .ok (.aload_n 0, 1) := by decide +kernel
theorem dX6_reasonHolds_35 : decode cX6_reasonHolds 35 = .ok (.aload_n 1, 1) := by decide +kernel
theorem dX6_reasonHolds_36 : decode cX6_reasonHolds 36 = .ok (.invokevirtual 108, 3) := by decide +kernel
theorem dX6_reasonHolds_39 : decode cX6_reasonHolds 39 = .ok (.ireturn, 1) := by decide +kernel
theorem dX6_reasonHolds_40 : decode cX6_reasonHolds 40 = .ok (.aload_n 0, 1) := by decide +kernel
theorem dX6_reasonHolds_41 : decode cX6_reasonHolds 41 = .ok (.aload_n 1, 1) := by decide +kernel
theorem dX6_reasonHolds_42 : decode cX6_reasonHolds 42 = .ok (.invokevirtual 111, 3) := by decide +kernel
theorem dX6_reasonHolds_45 : decode cX6_reasonHolds 45 = .ok (.ireturn, 1) := by decide +kernel
theorem dX6_isPassedOver_0 : decode cX6_isPassedOver 0 = .ok (.aload_n 1, 1) := by decide +kernel
theorem dX6_isPassedOver_1 : decode cX6_isPassedOver 1 = .ok (.getfield 55, 3) := by decide +kernel
theorem dX6_isPassedOver_4 : decode cX6_isPassedOver 4 = .ok (.bipush (-5), 2) := by decide +kernel
theorem dX6_isPassedOver_6 : decode cX6_isPassedOver 6 = .ok (.if_icmp .eq 23, 3) := by decide +kernel
theorem dX6_isPassedOver_9 : decode cX6_isPassedOver 9 = .ok (.aload_n 1, 1) := by decide +kernel
theorem dX6_isPassedOver_10 : decode cX6_isPassedOver 10 = .ok (.getfield 52, 3) := by decide +kernel
theorem dX6_isPassedOver_13 : decode cX6_isPassedOver 13 = .ok (.bipush (-5), 2) := by decide +kernel
theorem dX6_isPassedOver_15 : decode cX6_isPassedOver 15 = .ok (.if_icmp .ne 14, 3) := by decide +kernel
theorem dX6_isPassedOver_18 : decode cX6_isPassedOver 18 = .ok (.aload_n 1, 1) := by decide +kernel
theorem dX6_isPassedOver_19 : decode cX6_isPassedOver 19 = .ok (.getfield 96, 3) := by decide +kernel
theorem dX6_isPassedOver_22 : decode cX6_isPassedOver 22 = .ok (.ifCond .le 7, 3) := by decide +kernel
theorem dX6_isPassedOver_25 : decode cX6_isPassedOver 25 = .ok (.iconst 1, 1) := by decide +kernel
theorem dX6_isPassedOver_26 : decode cX6_isPassedOver 26 = .ok (.goto 4, 3) := by decide +kernel
theorem dX6_isPassedOver_29 : decode cX6_isPassedOver 29 = .ok (.iconst 0, 1) := by decide +kernel
theorem dX6_isPassedOver_30 : decode cX6_isPassedOver 30 = .ok (.ireturn, 1) := by decide +kernel
set_option maxRecDepth 20000 in
theorem ggX6_isCrowded_X6_hasFlat : GoodIn wsX6_isCrowded wsX6_hasFlat := goodIn_r _ [9, 10, 20, 21, 22, 23, 24, 25, 26, 27] (by decide +kernel) (by decide +kernel)
set_option maxRecDepth 20000 in
theorem gX6_isCrowded_X6_hasFlat : GoodIn wsX6_isCrowded (wsV RX6 66 RX6 yX6_hasFlat wsX6_hasFlat) := goodIn_app (goodIn_of _ (by decide +kernel)) ggX6_isCrowded_X6_hasFlat
theorem dX6_isCrowded_0 : decode cX6_isCrowded 0 = .ok (.aload_n 0, 1) := by decide +kernel
theorem dX6_isCrowded_1 : decode cX6_isCrowded 1 = .ok (.aload_n 1, 1) := by decide +kernel
theorem dX6_isCrowded_2 : decode cX6_isCrowded 2 = .ok (.getfield 52, 3) := by decide +kernel
theorem dX6_isCrowded_5 : decode cX6_isCrowded 5 = .ok (.invokevirtual 66, 3) := by decide +kernel
theorem dX6_isCrowded_8 : decode cX6_isCrowded 8 = .ok (.ifCond .eq 28, 3) := by decide +kernel
theorem dX6_isCrowded_11 : decode cX6_isCrowded 11 = .ok (.aload_n 1, 1) := by decide +kernel
theorem dX6_isCrowded_12 : decode cX6_isCrowded 12 = .ok (.getfield 114, 3) := by decide +kernel
theorem dX6_isCrowded_15 : decode cX6_isCrowded 15 = .ok (.aload_n 0, 1) := by decide +kernel
theorem dX6_isCrowded_16 : decode cX6_isCrowded 16 = .ok (.getfield 11, 3) := by decide +kernel
theorem dX6_isCrowded_19 : decode cX6_isCrowded 19 = .ok (.aload_n 1, 1) := by decide +kernel
theorem dX6_isCrowded_20 : decode cX6_isCrowded 20 = .ok (.getfield 52, 3) := by decide +kernel
theorem dX6_isCrowded_23 : decode cX6_isCrowded 23 = .ok (.aaload, 1) := by decide +kernel
theorem dX6_isCrowded_24 : decode cX6_isCrowded 24 = .ok (.getfield 117, 3) := by decide +kernel
theorem dX6_isCrowded_27 : decode cX6_isCrowded 27 = .ok (.iconst 1, 1) := by decide +kernel
theorem dX6_isCrowded_28 : decode cX6_isCrowded 28 = .ok (.iadd, 1) := by decide +kernel
theorem dX6_isCrowded_29 : decode cX6_isCrowded 29 = .ok (.if_icmp .le 7, 3) := by decide +kernel
theorem dX6_isCrowded_32 : decode cX6_isCrowded 32 = .ok (.iconst 1, 1) := by decide +kernel
theorem dX6_isCrowded_33 : decode cX6_isCrowded 33 = .ok (.goto 4, 3) := by decide +kernel
theorem dX6_isCrowded_36 : decode cX6_isCrowded 36 = .ok (.iconst 0, 1) := by decide +kernel
theorem dX6_isCrowded_37 : decode cX6_isCrowded 37 = .ok (.ireturn, 1) := by decide +kernel
set_option maxRecDepth 20000 in
theorem ggX6_isWronged_X6_envyOf : GoodIn wsX6_isWronged wsX6_envyOf := goodIn_r _ [7, 8, 9, 10, 11, 12, 13, 14, 15, 16, 17, 18, 19, 20, 21, 22, 23, 6, 24, 25, 26, 27, 28, 29, 30, 31, 32, 33, 34, 35, 36, 37, 38, 39, 40, 41, 42, 43, 44, 53, 54, 55, 56, 57, 58, 59, 60, 61, 45, 46, 47, 48, 49, 50, 51, 52, 62, 63] (by decide +kernel) (by decide +kernel)
set_option maxRecDepth 20000 in
theorem gX6_isWronged_X6_envyOf : GoodIn wsX6_isWronged (wsV RX6 120 RX6 yX6_envyOf wsX6_envyOf) := goodIn_app (goodIn_of _ (by decide +kernel)) ggX6_isWronged_X6_envyOf
theorem dX6_isWronged_0 : decode cX6_isWronged 0 = .ok (.iconst 0, 1) := by decide +kernel
theorem dX6_isWronged_1 : decode cX6_isWronged 1 = .ok (.istore_n 2, 1) := by decide +kernel
theorem dX6_isWronged_2 : decode cX6_isWronged 2 = .ok (.iload_n 2, 1) := by decide +kernel
theorem dX6_isWronged_3 : decode cX6_isWronged 3 = .ok (.aload_n 0, 1) := by decide +kernel
theorem dX6_isWronged_4 : decode cX6_isWronged 4 = .ok (.getfield 37, 3) := by decide +kernel
theorem dX6_isWronged_7 : decode cX6_isWronged 7 = .ok (.if_icmp .ge 26, 3) := by decide +kernel
theorem dX6_isWronged_10 : decode cX6_isWronged 10 = .ok (.aload_n 0, 1) := by decide +kernel
theorem dX6_isWronged_11 : decode cX6_isWronged 11 = .ok (.aload_n 1, 1) := by decide +kernel
theorem dX6_isWronged_12 : decode cX6_isWronged 12 = .ok (.aload_n 0, 1) := by decide +kernel
theorem dX6_isWronged_13 : decode cX6_isWronged 13 = .ok (.getfield 19, 3) := by decide +kernel
theorem dX6_isWronged_16 : decode cX6_isWronged 16 = .ok (.iload_n 2, 1) := by decide +kernel
theorem dX6_isWronged_17 : decode cX6_isWronged 17 = .ok (.aaload, 1) := by decide +kernel
theorem dX6_isWronged_18 : decode cX6_isWronged 18 = .ok (.invokevirtual 120, 3) := by decide +kernel
theorem dX6_isWronged_21 : decode cX6_isWronged 21 = .ok (.iconst 2, 1) := by decide +kernel
theorem dX6_isWronged_22 : decode cX6_isWronged 22 = .ok (.if_icmp .ne 5, 3) := by decide +kernel
theorem dX6_isWronged_25 : decode cX6_isWronged 25 = .ok (.iconst 1, 1) := by decide +kernel
theorem dX6_isWronged_26 : decode cX6_isWronged 26 = .ok (.ireturn, 1) := by decide +kernel
theorem dX6_isWronged_27 : decode cX6_isWronged 27 = .ok (.iinc 2 1, 3) := by decide +kernel
theorem dX6_isWronged_30 : decode cX6_isWronged 30 = .ok (.goto (-28), 3) := by decide +kernel
theorem dX6_isWronged_33 : decode cX6_isWronged 33 = .ok (.iconst 0, 1) := by decide +kernel
theorem dX6_isWronged_34 : decode cX6_isWronged 34 = .ok (.ireturn, 1) := by decide +kernel
set_option maxRecDepth 20000 in
theorem ggX6_envyOf_X2_wishesMoreThanItsOwn : GoodIn wsX6_envyOf wsX2_wishesMoreThanItsOwn := goodIn_r _ [6, 7, 8, 9, 10, 5, 11, 12, 13, 39, 40, 41, 42, 43, 44, 45, 46, 47] (by decide +kernel) (by decide +kernel)
set_option maxRecDepth 20000 in
theorem gX6_envyOf_X2_wishesMoreThanItsOwn : GoodIn wsX6_envyOf (wsV RX6 124 RX2 yX2_wishesMoreThanItsOwn wsX2_wishesMoreThanItsOwn) := goodIn_app (goodIn_of _ (by decide +kernel)) ggX6_envyOf_X2_wishesMoreThanItsOwn
set_option maxRecDepth 20000 in
theorem ggX6_envyOf_X6_isEligible : GoodIn wsX6_envyOf wsX6_isEligible := goodIn_r _ [18, 19, 20, 21, 22, 17, 23, 24, 25, 26, 27, 5, 28, 29, 30, 31, 32, 48, 49, 50, 51, 52, 53, 54, 55, 39, 40, 41, 42, 43, 44, 45, 46, 47, 56, 57] (by decide +kernel) (by decide +kernel)
set_option maxRecDepth 20000 in
theorem gX6_envyOf_X6_isEligible : GoodIn wsX6_envyOf (wsV RX6 62 RX6 yX6_isEligible wsX6_isEligible) := goodIn_app (goodIn_of _ (by decide +kernel)) ggX6_envyOf_X6_isEligible
set_option maxRecDepth 20000 in
theorem ggX6_envyOf_X2_standsAheadOf : GoodIn wsX6_envyOf wsX2_standsAheadOf := goodIn_r _ [36, 37, 38, 39, 40, 41, 42, 43, 44, 45, 46, 47] (by decide +kernel) (by decide +kernel)
set_option maxRecDepth 20000 in
theorem gX6_envyOf_X2_standsAheadOf : GoodIn wsX6_envyOf (wsV RX6 77 RX2 yX2_standsAheadOf wsX2_standsAheadOf) := goodIn_app (goodIn_of _ (by decide +kernel)) ggX6_envyOf_X2_standsAheadOf
theorem dX6_envyOf_0 : decode cX6_envyOf 0 = .ok (.aload_n 2, 1) := by decide +kernel
theorem dX6_envyOf_1 : decode cX6_envyOf 1 = .ok (.getfield 52, 3) := by decide +kernel
theorem dX6_envyOf_4 : decode cX6_envyOf 4 = .ok (.istore_n 3, 1) := by decide +kernel
theorem dX6_envyOf_5 : decode cX6_envyOf 5 = .ok (.aload_n 1, 1) := by decide +kernel
theorem dX6_envyOf_6 : decode cX6_envyOf 6 = .ok (.iload_n 3, 1) := by decide +kernel
theorem dX6_envyOf_7 : decode cX6_envyOf 7 = .ok (.invokevirtual 124, 3) := by decide +kernel
theorem dX6_envyOf_10 : decode cX6_envyOf 10 = .ok (.ifCond .eq 12, 3) := by decide +kernel
theorem dX6_envyOf_13 : decode cX6_envyOf 13 = .ok (.aload_n 0, 1) := by decide +kernel
theorem dX6_envyOf_14 : decode cX6_envyOf 14 = .ok (.aload_n 1, 1) := by decide +kernel
theorem dX6_envyOf_15 : decode cX6_envyOf 15 = .ok (.iload_n 3, 1) := by decide +kernel
theorem dX6_envyOf_16 : decode cX6_envyOf 16 = .ok (.invokevirtual 62, 3) := by decide +kernel
theorem dX6_envyOf_19 : decode cX6_envyOf 19 = .ok (.ifCond .ne 5, 3) := by decide +kernel
theorem dX6_envyOf_22 : decode cX6_envyOf 22 = .ok (.iconst 0, 1) := by decide +kernel
theorem dX6_envyOf_23 : decode cX6_envyOf 23 = .ok (.ireturn, 1) := by decide +kernel
theorem dX6_envyOf_24 : decode cX6_envyOf 24 = .ok (.aload_n 1, 1) := by decide +kernel
theorem dX6_envyOf_25 : decode cX6_envyOf 25 = .ok (.aload_n 2, 1) := by decide +kernel
theorem dX6_envyOf_26 : decode cX6_envyOf 26 = .ok (.invokevirtual 77, 3) := by decide +kernel
theorem dX6_envyOf_29 : decode cX6_envyOf 29 = .ok (.ifCond .eq 7, 3) := by decide +kernel
theorem dX6_envyOf_32 : decode cX6_envyOf 32 = .ok (.iconst 2, 1) := by decide +kernel
theorem dX6_envyOf_33 : decode cX6_envyOf 33 = .ok (.goto 4, 3) := by decide +kernel
theorem dX6_envyOf_36 : decode cX6_envyOf 36 = .ok (.iconst 1, 1) := by decide +kernel
theorem dX6_envyOf_37 : decode cX6_envyOf 37 = .ok (.ireturn, 1) := by decide +kernel
set_option maxRecDepth 20000 in
theorem ggX6_countEnvy_X6_envyOf : GoodIn wsX6_countEnvy wsX6_envyOf := goodIn_r _ [7, 8, 9, 10, 11, 12, 13, 14, 15, 16, 17, 18, 19, 20, 21, 22, 23, 6, 24, 25, 26, 27, 28, 29, 30, 31, 32, 33, 34, 35, 36, 37, 38, 39, 40, 41, 42, 43, 44, 53, 54, 55, 56, 57, 58, 59, 60, 61, 45, 46, 47, 48, 49, 50, 51, 52, 62, 63] (by decide +kernel) (by decide +kernel)
set_option maxRecDepth 20000 in
theorem gX6_countEnvy_X6_envyOf : GoodIn wsX6_countEnvy (wsV RX6 120 RX6 yX6_envyOf wsX6_envyOf) := goodIn_app (goodIn_of _ (by decide +kernel)) ggX6_countEnvy_X6_envyOf
theorem dX6_countEnvy_0 : decode cX6_countEnvy 0 = .ok (.iconst 0, 1) := by decide +kernel
theorem dX6_countEnvy_1 : decode cX6_countEnvy 1 = .ok (.istore_n 2, 1) := by decide +kernel
theorem dX6_countEnvy_2 : decode cX6_countEnvy 2 = .ok (.iconst 0, 1) := by decide +kernel
theorem dX6_countEnvy_3 : decode cX6_countEnvy 3 = .ok (.istore_n 3, 1) := by decide +kernel
theorem dX6_countEnvy_4 : decode cX6_countEnvy 4 = .ok (.iload_n 3, 1) := by decide +kernel
theorem dX6_countEnvy_5 : decode cX6_countEnvy 5 = .ok (.aload_n 0, 1) := by decide +kernel
theorem dX6_countEnvy_6 : decode cX6_countEnvy 6 = .ok (.getfield 37, 3) := by decide +kernel
theorem dX6_countEnvy_9 : decode cX6_countEnvy 9 = .ok (.if_icmp .ge 51, 3) := by decide +kernel
theorem dX6_countEnvy_12 : decode cX6_countEnvy 12 = .ok (.iconst 0, 1) := by decide +kernel
theorem dX6_countEnvy_13 : decode cX6_countEnvy 13 = .ok (.istore 4, 2) := by decide +kernel
theorem dX6_countEnvy_15 : decode cX6_countEnvy 15 = .ok (.iload 4, 2) := by decide +kernel
theorem dX6_countEnvy_17 : decode cX6_countEnvy 17 = .ok (.aload_n 0, 1) := by decide +kernel
theorem dX6_countEnvy_18 : decode cX6_countEnvy 18 = .ok (.getfield 37, 3) := by decide +kernel
theorem dX6_countEnvy_21 : decode cX6_countEnvy 21 = .ok (.if_icmp .ge 33, 3) := by decide +kernel
theorem dX6_countEnvy_24 : decode cX6_countEnvy 24 = .ok (.aload_n 0, 1) := by decide +kernel
theorem dX6_countEnvy_25 : decode cX6_countEnvy 25 = .ok (.aload_n 0, 1) := by decide +kernel
theorem dX6_countEnvy_26 : decode cX6_countEnvy 26 = .ok (.getfield 19, 3) := by decide +kernel
theorem dX6_countEnvy_29 : decode cX6_countEnvy 29 = .ok (.iload_n 3, 1) := by decide +kernel
theorem dX6_countEnvy_30 : decode cX6_countEnvy 30 = .ok (.aaload, 1) := by decide +kernel
theorem dX6_countEnvy_31 : decode cX6_countEnvy 31 = .ok (.aload_n 0, 1) := by decide +kernel
theorem dX6_countEnvy_32 : decode cX6_countEnvy 32 = .ok (.getfield 19, 3) := by decide +kernel
theorem dX6_countEnvy_35 : decode cX6_countEnvy 35 = .ok (.iload 4, 2) := by decide +kernel
theorem dX6_countEnvy_37 : decode cX6_countEnvy 37 = .ok (.aaload, 1) := by decide +kernel
theorem dX6_countEnvy_38 : decode cX6_countEnvy 38 = .ok (.invokevirtual 120, 3) := by decide +kernel
theorem dX6_countEnvy_41 : decode cX6_countEnvy 41 = .ok (.iload_n 1, 1) := by decide +kernel
theorem dX6_countEnvy_42 : decode cX6_countEnvy 42 = .ok (.if_icmp .lt 6, 3) := by decide +kernel
theorem dX6_countEnvy_45 : decode cX6_countEnvy 45 = .ok (.iinc 2 1, 3) := by decide +kernel
theorem dX6_countEnvy_48 : decode cX6_countEnvy 48 = .ok (.iinc 4 1, 3) := by decide +kernel
theorem dX6_countEnvy_51 : decode cX6_countEnvy 51 = .ok (.goto (-36), 3) := by decide +kernel
theorem dX6_countEnvy_54 : decode cX6_countEnvy 54 = .ok (.iinc 3 1, 3) := by decide +kernel
theorem dX6_countEnvy_57 : decode cX6_countEnvy 57 = .ok (.goto (-53), 3) := by decide +kernel
theorem dX6_countEnvy_60 : decode cX6_countEnvy 60 = .ok (.iload_n 2, 1) := by decide +kernel
theorem dX6_countEnvy_61 : decode cX6_countEnvy 61 = .ok (.ireturn, 1) := by decide +kernel
set_option maxRecDepth 20000 in
theorem ggX6_pointsTo_X2_wishesMoreThanItsOwn : GoodIn wsX6_pointsTo wsX2_wishesMoreThanItsOwn := goodIn_r _ [8, 9, 10, 11, 12, 7, 13, 14, 15, 41, 42, 43, 44, 45, 46, 47, 48, 49] (by decide +kernel) (by decide +kernel)
set_option maxRecDepth 20000 in
theorem gX6_pointsTo_X2_wishesMoreThanItsOwn : GoodIn wsX6_pointsTo (wsV RX6 124 RX2 yX2_wishesMoreThanItsOwn wsX2_wishesMoreThanItsOwn) := goodIn_app (goodIn_of _ (by decide +kernel)) ggX6_pointsTo_X2_wishesMoreThanItsOwn
set_option maxRecDepth 20000 in
theorem ggX6_pointsTo_X6_holderOf : GoodIn wsX6_pointsTo wsX6_holderOf := goodIn_r _ [20, 21, 22, 1, 50, 51, 52, 53, 54, 55, 56, 57, 41, 42, 43, 44, 45, 46, 47, 48, 49] (by decide +kernel) (by decide +kernel)
set_option maxRecDepth 20000 in
theorem gX6_pointsTo_X6_holderOf : GoodIn wsX6_pointsTo (wsV RX6 127 RX6 yX6_holderOf wsX6_holderOf) := goodIn_app (goodIn_of _ (by decide +kernel)) ggX6_pointsTo_X6_holderOf
set_option maxRecDepth 20000 in
theorem ggX6_pointsTo_X6_isEligible : GoodIn wsX6_pointsTo wsX6_isEligible := goodIn_r _ [26, 27, 28, 29, 30, 19, 31, 32, 33, 34, 35, 7, 36, 37, 38, 39, 40, 50, 51, 52, 53, 54, 55, 56, 57, 41, 42, 43, 44, 45, 46, 47, 48, 49, 58, 59] (by decide +kernel) (by decide +kernel)
set_option maxRecDepth 20000 in
theorem gX6_pointsTo_X6_isEligible : GoodIn wsX6_pointsTo (wsV RX6 62 RX6 yX6_isEligible wsX6_isEligible) := goodIn_app (goodIn_of _ (by decide +kernel)) ggX6_pointsTo_X6_isEligible
theorem dX6_pointsTo_0 : decode cX6_pointsTo 0 = .ok (.aload_n 1, 1) := by decide +kernel
theorem dX6_pointsTo_1 : decode cX6_pointsTo 1 = .ok (.getfield 52, 3) := by decide +kernel
theorem dX6_pointsTo_4 : decode cX6_pointsTo 4 = .ok (.bipush (-5), 2) := by decide +kernel
theorem dX6_pointsTo_6 : decode cX6_pointsTo 6 = .ok (.if_icmp .ne 6, 3) := by decide +kernel
theorem dX6_pointsTo_9 : decode cX6_pointsTo 9 = .ok (.bipush (-5), 2) := by decide +kernel
theorem dX6_pointsTo_11 : decode cX6_pointsTo 11 = .ok (.ireturn, 1) := by decide +kernel
theorem dX6_pointsTo_12 : decode cX6_pointsTo 12 = .ok (.iconst 0, 1) := by decide +kernel
theorem dX6_pointsTo_13 : decode cX6_pointsTo 13 = .ok (.istore_n 2, 1) := by decide +kernel
theorem dX6_pointsTo_14 : decode cX6_pointsTo 14 = .ok (.iload_n 2, 1) := by decide +kernel
theorem dX6_pointsTo_15 : decode cX6_pointsTo 15 = .ok (.aload_n 1, 1) := by decide +kernel
theorem dX6_pointsTo_16 : decode cX6_pointsTo 16 = .ok (.getfield 99, 3) := by decide +kernel
theorem dX6_pointsTo_19 : decode cX6_pointsTo 19 = .ok (.if_icmp .ge 53, 3) := by decide +kernel
theorem dX6_pointsTo_22 : decode cX6_pointsTo 22 = .ok (.aload_n 1, 1) := by decide +kernel
theorem dX6_pointsTo_23 : decode cX6_pointsTo 23 = .ok (.getfield 102, 3) := by decide +kernel
theorem dX6_pointsTo_26 : decode cX6_pointsTo 26 = .ok (.iload_n 2, 1) := by decide +kernel
theorem dX6_pointsTo_27 : decode cX6_pointsTo 27 = .ok (.iaload, 1) := by decide +kernel
theorem dX6_pointsTo_28 : decode cX6_pointsTo 28 = .ok (.istore_n 3, 1) := by decide +kernel
theorem dX6_pointsTo_29 : decode cX6_pointsTo 29 = .ok (.aload_n 1, 1) := by decide +kernel
theorem dX6_pointsTo_30 : decode cX6_pointsTo 30 = .ok (.iload_n 3, 1) := by decide +kernel
