theorem dX6_pointsTo_31 : decode cX6_pointsTo 31 = .ok (.invokevirtual 124, 3) := by decide +kernel
theorem dX6_pointsTo_34 : decode cX6_pointsTo 34 = .ok (.ifCond .ne 6, 3) := by decide +kernel
theorem dX6_pointsTo_37 : decode cX6_pointsTo 37 = .ok (.bipush (-5), 2) := by decide +kernel
theorem dX6_pointsTo_39 : decode cX6_pointsTo 39 = .ok (.ireturn, 1) := by decide +kernel
theorem dX6_pointsTo_40 : decode cX6_pointsTo 40 = .ok (.aload_n 0, 1) := by decide +kernel
theorem dX6_pointsTo_41 : decode cX6_pointsTo 41 = .ok (.iload_n 3, 1) := by decide +kernel
theorem dX6_pointsTo_42 : decode cX6_pointsTo 42 = .ok (.invokevirtual 127, 3) := by decide +kernel
theorem dX6_pointsTo_45 : decode cX6_pointsTo 45 = .ok (.istore 4, 2) := by decide +kernel
theorem dX6_pointsTo_47 : decode cX6_pointsTo 47 = .ok (.iload 4, 2) := by decide +kernel
theorem dX6_pointsTo_49 : decode cX6_pointsTo 49 = .ok (.bipush (-5), 2) := by decide +kernel
theorem dX6_pointsTo_51 : decode cX6_pointsTo 51 = .ok (.if_icmp .eq 15, 3) := by decide +kernel
theorem dX6_pointsTo_54 : decode cX6_pointsTo 54 = .ok (.aload_n 0, 1) := by decide +kernel
theorem dX6_pointsTo_55 : decode cX6_pointsTo 55 = .ok (.aload_n 1, 1) := by decide +kernel
theorem dX6_pointsTo_56 : decode cX6_pointsTo 56 = .ok (.iload_n 3, 1) := by decide +kernel
theorem dX6_pointsTo_57 : decode cX6_pointsTo 57 = .ok (.invokevirtual 62, 3) := by decide +kernel
theorem dX6_pointsTo_60 : decode cX6_pointsTo 60 = .ok (.ifCond .eq 6, 3) := by decide +kernel
theorem dX6_pointsTo_63 : decode cX6_pointsTo 63 = .ok (.iload 4, 2) := by decide +kernel
theorem dX6_pointsTo_65 : decode cX6_pointsTo 65 = .ok (.ireturn, 1) := by decide +kernel
theorem dX6_pointsTo_66 : decode cX6_pointsTo 66 = .ok (.iinc 2 1, 3) := by decide +kernel
theorem dX6_pointsTo_69 : decode cX6_pointsTo 69 = .ok (.goto (-55), 3) := by decide +kernel
theorem dX6_pointsTo_72 : decode cX6_pointsTo 72 = .ok (.bipush (-5), 2) := by decide +kernel
theorem dX6_pointsTo_74 : decode cX6_pointsTo 74 = .ok (.ireturn, 1) := by decide +kernel
set_option maxRecDepth 20000 in
theorem ggX7_init_X6_init : GoodIn wsX7_init wsX6_init := goodIn_r _ [28, 29, 2, 3, 30, 31, 32, 33, 34, 35, 36, 37, 38, 39, 40, 41, 42, 43, 44, 45, 46, 73, 74, 75, 76, 77, 78, 79, 80, 103, 104, 105, 106, 107, 108, 109, 110, 111, 112, 113] (by decide +kernel) (by decide +kernel)
set_option maxRecDepth 20000 in
theorem gX7_init_X6_init : GoodIn wsX7_init (wsX6_init) := ggX7_init_X6_init
set_option maxRecDepth 20000 in
theorem ggX7_init_X1_init : GoodIn wsX7_init wsX1_init := goodIn_r _ [49, 50, 2, 3, 51, 52, 5, 6, 53, 27, 28, 29, 30, 31, 32, 33, 34, 35, 36, 37, 38, 39, 40, 41, 42, 43, 44, 45, 46, 88, 89, 73, 74, 75, 76, 77, 78, 79, 80, 103, 104, 105, 106, 107, 108, 109, 110, 111, 112, 113] (by decide +kernel) (by decide +kernel)
set_option maxRecDepth 20000 in
theorem gX7_init_X1_init : GoodIn wsX7_init (wsX1_init) := ggX7_init_X1_init
set_option maxRecDepth 20000 in
theorem ggX7_init_X3_init : GoodIn wsX7_init wsX3_init := goodIn_r _ [55, 56, 2, 3, 57, 58, 34, 59, 60, 61, 90, 91, 92, 93, 94, 95, 96] (by decide +kernel) (by decide +kernel)
set_option maxRecDepth 20000 in
theorem gX7_init_X3_init_n32 : GoodIn wsX7_init (wsX3_init) := ggX7_init_X3_init
set_option maxRecDepth 20000 in
theorem ggX7_init_X5_init : GoodIn wsX7_init wsX5_init := goodIn_r _ [63, 64, 2, 3, 34, 65, 97, 98] (by decide +kernel) (by decide +kernel)
set_option maxRecDepth 20000 in
theorem gX7_init_X5_init_n39 : GoodIn wsX7_init (wsX5_init) := ggX7_init_X5_init
set_option maxRecDepth 20000 in
theorem ggX7_init_X4_init : GoodIn wsX7_init wsX4_init := goodIn_r _ [67, 68, 2, 3, 34, 69, 70, 71, 72, 99, 100, 101, 102] (by decide +kernel) (by decide +kernel)
set_option maxRecDepth 20000 in
theorem gX7_init_X4_init_n46 : GoodIn wsX7_init (wsX4_init) := ggX7_init_X4_init
theorem dX7_init_0 : decode cX7_init 0 = .ok (.aload_n 0, 1) := by decide +kernel
theorem dX7_init_1 : decode cX7_init 1 = .ok (.invokespecial 1, 3) := by decide +kernel
theorem dX7_init_4 : decode cX7_init 4 = .ok (.aload_n 0, 1) := by decide +kernel
theorem dX7_init_5 : decode cX7_init 5 = .ok (.new 7, 3) := by decide +kernel
theorem dX7_init_8 : decode cX7_init 8 = .ok (.dup, 1) := by decide +kernel
theorem dX7_init_9 : decode cX7_init 9 = .ok (.invokespecial 9, 3) := by decide +kernel
theorem dX7_init_12 : decode cX7_init 12 = .ok (.putfield 10, 3) := by decide +kernel
theorem dX7_init_15 : decode cX7_init 15 = .ok (.aload_n 0, 1) := by decide +kernel
theorem dX7_init_16 : decode cX7_init 16 = .ok (.new 7, 3) := by decide +kernel
theorem dX7_init_19 : decode cX7_init 19 = .ok (.dup, 1) := by decide +kernel
theorem dX7_init_20 : decode cX7_init 20 = .ok (.invokespecial 9, 3) := by decide +kernel
theorem dX7_init_23 : decode cX7_init 23 = .ok (.putfield 16, 3) := by decide +kernel
theorem dX7_init_26 : decode cX7_init 26 = .ok (.aload_n 0, 1) := by decide +kernel
theorem dX7_init_27 : decode cX7_init 27 = .ok (.iconst 0, 1) := by decide +kernel
theorem dX7_init_28 : decode cX7_init 28 = .ok (.putfield 19, 3) := by decide +kernel
theorem dX7_init_31 : decode cX7_init 31 = .ok (.aload_n 0, 1) := by decide +kernel
theorem dX7_init_32 : decode cX7_init 32 = .ok (.new 23, 3) := by decide +kernel
theorem dX7_init_35 : decode cX7_init 35 = .ok (.dup, 1) := by decide +kernel
theorem dX7_init_36 : decode cX7_init 36 = .ok (.invokespecial 25, 3) := by decide +kernel
theorem dX7_init_39 : decode cX7_init 39 = .ok (.putfield 26, 3) := by decide +kernel
theorem dX7_init_42 : decode cX7_init 42 = .ok (.aload_n 0, 1) := by decide +kernel
theorem dX7_init_43 : decode cX7_init 43 = .ok (.new 30, 3) := by decide +kernel
theorem dX7_init_46 : decode cX7_init 46 = .ok (.dup, 1) := by decide +kernel
theorem dX7_init_47 : decode cX7_init 47 = .ok (.invokespecial 32, 3) := by decide +kernel
theorem dX7_init_50 : decode cX7_init 50 = .ok (.putfield 33, 3) := by decide +kernel
theorem dX7_init_53 : decode cX7_init 53 = .ok (.aload_n 0, 1) := by decide +kernel
theorem dX7_init_54 : decode cX7_init 54 = .ok (.new 37, 3) := by decide +kernel
theorem dX7_init_57 : decode cX7_init 57 = .ok (.dup, 1) := by decide +kernel
theorem dX7_init_58 : decode cX7_init 58 = .ok (.invokespecial 39, 3) := by decide +kernel
theorem dX7_init_61 : decode cX7_init 61 = .ok (.putfield 40, 3) := by decide +kernel
theorem dX7_init_64 : decode cX7_init 64 = .ok (.aload_n 0, 1) := by decide +kernel
theorem dX7_init_65 : decode cX7_init 65 = .ok (.new 44, 3) := by decide +kernel
theorem dX7_init_68 : decode cX7_init 68 = .ok (.dup, 1) := by decide +kernel
theorem dX7_init_69 : decode cX7_init 69 = .ok (.invokespecial 46, 3) := by decide +kernel
theorem dX7_init_72 : decode cX7_init 72 = .ok (.putfield 47, 3) := by decide +kernel
theorem dX7_init_75 : decode cX7_init 75 = .ok (.return_, 1) := by decide +kernel
set_option maxRecDepth 20000 in
theorem ggX7_addFlat_X7_isWithin : GoodIn wsX7_addFlat wsX7_isWithin := goodIn_r _ [10] (by decide +kernel) (by decide +kernel)
set_option maxRecDepth 20000 in
theorem gX7_addFlat_X7_isWithin : GoodIn wsX7_addFlat (va_wsS RX7 51 yX7_isWithin wsX7_isWithin) := goodIn_app (goodIn_of _ (by decide +kernel)) ggX7_addFlat_X7_isWithin
set_option maxRecDepth 20000 in
theorem ggX7_addFlat_X1_record : GoodIn wsX7_addFlat wsX1_record := goodIn_r _ [15, 16, 17, 18, 19, 20, 14, 21, 22, 23, 24, 25, 26, 27, 28, 29, 30, 31, 32, 33, 34, 35, 36, 37, 38, 39, 40, 41, 42, 43, 44, 45, 46, 47, 48, 49, 50, 51, 52, 53, 54, 72, 73, 62, 63, 64, 65, 66, 67, 68, 69, 70, 71, 74, 75, 76, 77, 78, 79, 80, 81, 82] (by decide +kernel) (by decide +kernel)
set_option maxRecDepth 20000 in
theorem gX7_addFlat_X1_record : GoodIn wsX7_addFlat (wsV RX7 59 RX1 yX1_record wsX1_record) := goodIn_app (goodIn_of _ (by decide +kernel)) ggX7_addFlat_X1_record
theorem dX7_addFlat_0 : decode cX7_addFlat 0 = .ok (.iload_n 1, 1) := by decide +kernel
theorem dX7_addFlat_1 : decode cX7_addFlat 1 = .ok (.iconst 1, 1) := by decide +kernel
theorem dX7_addFlat_2 : decode cX7_addFlat 2 = .ok (.iconst 5, 1) := by decide +kernel
theorem dX7_addFlat_3 : decode cX7_addFlat 3 = .ok (.invokestatic 51, 3) := by decide +kernel
theorem dX7_addFlat_6 : decode cX7_addFlat 6 = .ok (.ifCond .eq 14, 3) := by decide +kernel
theorem dX7_addFlat_9 : decode cX7_addFlat 9 = .ok (.iload_n 2, 1) := by decide +kernel
theorem dX7_addFlat_10 : decode cX7_addFlat 10 = .ok (.iconst 1, 1) := by decide +kernel
theorem dX7_addFlat_11 : decode cX7_addFlat 11 = .ok (.sipush 999, 3) := by decide +kernel
theorem dX7_addFlat_14 : decode cX7_addFlat 14 = .ok (.invokestatic 51, 3) := by decide +kernel
theorem dX7_addFlat_17 : decode cX7_addFlat 17 = .ok (.ifCond .ne 6, 3) := by decide +kernel
theorem dX7_addFlat_20 : decode cX7_addFlat 20 = .ok (.bipush (-2), 2) := by decide +kernel
theorem dX7_addFlat_22 : decode cX7_addFlat 22 = .ok (.ireturn, 1) := by decide +kernel
theorem dX7_addFlat_23 : decode cX7_addFlat 23 = .ok (.aload_n 0, 1) := by decide +kernel
theorem dX7_addFlat_24 : decode cX7_addFlat 24 = .ok (.getfield 10, 3) := by decide +kernel
theorem dX7_addFlat_27 : decode cX7_addFlat 27 = .ok (.getfield 55, 3) := by decide +kernel
theorem dX7_addFlat_30 : decode cX7_addFlat 30 = .ok (.bipush 12, 2) := by decide +kernel
theorem dX7_addFlat_32 : decode cX7_addFlat 32 = .ok (.if_icmp .lt 6, 3) := by decide +kernel
theorem dX7_addFlat_35 : decode cX7_addFlat 35 = .ok (.bipush (-3), 2) := by decide +kernel
theorem dX7_addFlat_37 : decode cX7_addFlat 37 = .ok (.ireturn, 1) := by decide +kernel
theorem dX7_addFlat_38 : decode cX7_addFlat 38 = .ok (.aload_n 0, 1) := by decide +kernel
theorem dX7_addFlat_39 : decode cX7_addFlat 39 = .ok (.getfield 26, 3) := by decide +kernel
theorem dX7_addFlat_42 : decode cX7_addFlat 42 = .ok (.aload_n 0, 1) := by decide +kernel
theorem dX7_addFlat_43 : decode cX7_addFlat 43 = .ok (.getfield 10, 3) := by decide +kernel
theorem dX7_addFlat_46 : decode cX7_addFlat 46 = .ok (.invokevirtual 59, 3) := by decide +kernel
theorem dX7_addFlat_49 : decode cX7_addFlat 49 = .ok (.aload_n 0, 1) := by decide +kernel
theorem dX7_addFlat_50 : decode cX7_addFlat 50 = .ok (.getfield 10, 3) := by decide +kernel
theorem dX7_addFlat_53 : decode cX7_addFlat 53 = .ok (.getfield 63, 3) := by decide +kernel
theorem dX7_addFlat_56 : decode cX7_addFlat 56 = .ok (.aload_n 0, 1) := by decide +kernel
theorem dX7_addFlat_57 : decode cX7_addFlat 57 = .ok (.getfield 10, 3) := by decide +kernel
theorem dX7_addFlat_60 : decode cX7_addFlat 60 = .ok (.getfield 55, 3) := by decide +kernel
theorem dX7_addFlat_63 : decode cX7_addFlat 63 = .ok (.aaload, 1) := by decide +kernel
theorem dX7_addFlat_64 : decode cX7_addFlat 64 = .ok (.astore_n 3, 1) := by decide +kernel
theorem dX7_addFlat_65 : decode cX7_addFlat 65 = .ok (.aload_n 3, 1) := by decide +kernel
theorem dX7_addFlat_66 : decode cX7_addFlat 66 = .ok (.iload_n 1, 1) := by decide +kernel
theorem dX7_addFlat_67 : decode cX7_addFlat 67 = .ok (.putfield 67, 3) := by decide +kernel
theorem dX7_addFlat_70 : decode cX7_addFlat 70 = .ok (.aload_n 3, 1) := by decide +kernel
theorem dX7_addFlat_71 : decode cX7_addFlat 71 = .ok (.iload_n 2, 1) := by decide +kernel
theorem dX7_addFlat_72 : decode cX7_addFlat 72 = .ok (.putfield 72, 3) := by decide +kernel
theorem dX7_addFlat_75 : decode cX7_addFlat 75 = .ok (.aload_n 0, 1) := by decide +kernel
theorem dX7_addFlat_76 : decode cX7_addFlat 76 = .ok (.getfield 10, 3) := by decide +kernel
theorem dX7_addFlat_79 : decode cX7_addFlat 79 = .ok (.dup, 1) := by decide +kernel
theorem dX7_addFlat_80 : decode cX7_addFlat 80 = .ok (.getfield 55, 3) := by decide +kernel
theorem dX7_addFlat_83 : decode cX7_addFlat 83 = .ok (.iconst 1, 1) := by decide +kernel
theorem dX7_addFlat_84 : decode cX7_addFlat 84 = .ok (.iadd, 1) := by decide +kernel
theorem dX7_addFlat_85 : decode cX7_addFlat 85 = .ok (.putfield 55, 3) := by decide +kernel
theorem dX7_addFlat_88 : decode cX7_addFlat 88 = .ok (.aload_n 0, 1) := by decide +kernel
theorem dX7_addFlat_89 : decode cX7_addFlat 89 = .ok (.getfield 10, 3) := by decide +kernel
theorem dX7_addFlat_92 : decode cX7_addFlat 92 = .ok (.getfield 55, 3) := by decide +kernel
theorem dX7_addFlat_95 : decode cX7_addFlat 95 = .ok (.iconst 1, 1) := by decide +kernel
theorem dX7_addFlat_96 : decode cX7_addFlat 96 = .ok (.isub, 1) := by decide +kernel
theorem dX7_addFlat_97 : decode cX7_addFlat 97 = .ok (.ireturn, 1) := by decide +kernel
set_option maxRecDepth 20000 in
theorem ggX7_addHousehold_X7_isWithin : GoodIn wsX7_addHousehold wsX7_isWithin := goodIn_r _ [8] (by decide +kernel) (by decide +kernel)
set_option maxRecDepth 20000 in
theorem gX7_addHousehold_X7_isWithin : GoodIn wsX7_addHousehold (va_wsS RX7 51 yX7_isWithin wsX7_isWithin) := goodIn_app (goodIn_of _ (by decide +kernel)) ggX7_addHousehold_X7_isWithin
set_option maxRecDepth 20000 in
theorem ggX7_addHousehold_X1_record : GoodIn wsX7_addHousehold wsX1_record := goodIn_r _ [13, 14, 15, 16, 17, 18, 12, 19, 20, 21, 22, 23, 24, 25, 26, 27, 28, 29, 30, 31, 32, 33, 34, 35, 36, 37, 38, 39, 40, 41, 42, 43, 44, 45, 46, 47, 48, 49, 50, 51, 52, 72, 73, 64, 65, 66, 67, 68, 69, 70, 71, 74, 75, 76, 77, 78, 79, 80, 81, 82, 83, 84] (by decide +kernel) (by decide +kernel)
set_option maxRecDepth 20000 in
theorem gX7_addHousehold_X1_record : GoodIn wsX7_addHousehold (wsV RX7 59 RX1 yX1_record wsX1_record) := goodIn_app (goodIn_of _ (by decide +kernel)) ggX7_addHousehold_X1_record
set_option maxRecDepth 20000 in
theorem ggX7_addHousehold_X2_begin : GoodIn wsX7_addHousehold wsX2_begin := goodIn_r _ [56, 45, 46, 47, 48, 49, 50, 51, 52, 76, 77, 78, 79, 80, 81, 82, 83, 84] (by decide +kernel) (by decide +kernel)
set_option maxRecDepth 20000 in
theorem gX7_addHousehold_X2_begin : GoodIn wsX7_addHousehold (wsV RX7 82 RX2 yX2_begin wsX2_begin) := goodIn_app (goodIn_of _ (by decide +kernel)) ggX7_addHousehold_X2_begin
theorem dX7_addHousehold_0 : decode cX7_addHousehold 0 = .ok (.iload_n 1, 1) := by decide +kernel
theorem dX7_addHousehold_1 : decode cX7_addHousehold 1 = .ok (.iconst 1, 1) := by decide +kernel
theorem dX7_addHousehold_2 : decode cX7_addHousehold 2 = .ok (.bipush 9, 2) := by decide +kernel
theorem dX7_addHousehold_4 : decode cX7_addHousehold 4 = .ok (.invokestatic 51, 3) := by decide +kernel
theorem dX7_addHousehold_7 : decode cX7_addHousehold 7 = .ok (.ifCond .eq 14, 3) := by decide +kernel
theorem dX7_addHousehold_10 : decode cX7_addHousehold 10 = .ok (.iload_n 2, 1) := by decide +kernel
theorem dX7_addHousehold_11 : decode cX7_addHousehold 11 = .ok (.iconst 1, 1) := by decide +kernel
theorem dX7_addHousehold_12 : decode cX7_addHousehold 12 = .ok (.sipush 9999, 3) := by decide +kernel
theorem dX7_addHousehold_15 : decode cX7_addHousehold 15 = .ok (.invokestatic 51, 3) := by decide +kernel
theorem dX7_addHousehold_18 : decode cX7_addHousehold 18 = .ok (.ifCond .ne 6, 3) := by decide +kernel
theorem dX7_addHousehold_21 : decode cX7_addHousehold 21 = .ok (.bipush (-2), 2) := by decide +kernel
theorem dX7_addHousehold_23 : decode cX7_addHousehold 23 = .ok (.ireturn, 1) := by decide +kernel
theorem dX7_addHousehold_24 : decode cX7_addHousehold 24 = .ok (.aload_n 0, 1) := by decide +kernel
theorem dX7_addHousehold_25 : decode cX7_addHousehold 25 = .ok (.getfield 10, 3) := by decide +kernel
theorem dX7_addHousehold_28 : decode cX7_addHousehold 28 = .ok (.getfield 75, 3) := by decide +kernel
theorem dX7_addHousehold_31 : decode cX7_addHousehold 31 = .ok (.bipush 12, 2) := by decide +kernel
theorem dX7_addHousehold_33 : decode cX7_addHousehold 33 = .ok (.if_icmp .lt 6, 3) := by decide +kernel
theorem dX7_addHousehold_36 : decode cX7_addHousehold 36 = .ok (.bipush (-3), 2) := by decide +kernel
theorem dX7_addHousehold_38 : decode cX7_addHousehold 38 = .ok (.ireturn, 1) := by decide +kernel
theorem dX7_addHousehold_39 : decode cX7_addHousehold 39 = .ok (.aload_n 0, 1) := by decide +kernel
theorem dX7_addHousehold_40 : decode cX7_addHousehold 40 = .ok (.getfield 26, 3) := by decide +kernel
theorem dX7_addHousehold_43 : decode cX7_addHousehold 43 = .ok (.aload_n 0, 1) := by decide +kernel
theorem dX7_addHousehold_44 : decode cX7_addHousehold 44 = .ok (.getfield 10, 3) := by decide +kernel
theorem dX7_addHousehold_47 : decode cX7_addHousehold 47 = .ok (.invokevirtual 59, 3) := by decide +kernel
theorem dX7_addHousehold_50 : decode cX7_addHousehold 50 = .ok (.aload_n 0, 1) := by decide +kernel
theorem dX7_addHousehold_51 : decode cX7_addHousehold 51 = .ok (.getfield 10, 3) := by decide +kernel
theorem dX7_addHousehold_54 : decode cX7_addHousehold 54 = .ok (.getfield 78, 3) := by decide +kernel
theorem dX7_addHousehold_57 : decode cX7_addHousehold 57 = .ok (.aload_n 0, 1) := by decide +kernel
theorem dX7_addHousehold_58 : decode cX7_addHousehold 58 = .ok (.getfield 10, 3) := by decide +kernel
theorem dX7_addHousehold_61 : decode cX7_addHousehold 61 = .ok (.getfield 75, 3) := by decide +kernel
theorem dX7_addHousehold_64 : decode cX7_addHousehold 64 = .ok (.aaload, 1) := by decide +kernel
theorem dX7_addHousehold_65 : decode cX7_addHousehold 65 = .ok (.iload_n 1, 1) := by decide +kernel
theorem dX7_addHousehold_66 : decode cX7_addHousehold 66 = .ok (.iload_n 2, 1) := by decide +kernel
theorem dX7_addHousehold_67 : decode cX7_addHousehold 67 = .ok (.invokevirtual 82, 3) := by decide +kernel
theorem dX7_addHousehold_70 : decode cX7_addHousehold 70 = .ok (.aload_n 0, 1) := by decide +kernel
theorem dX7_addHousehold_71 : decode cX7_addHousehold 71 = .ok (.getfield 10, 3) := by decide +kernel
theorem dX7_addHousehold_74 : decode cX7_addHousehold 74 = .ok (.dup, 1) := by decide +kernel
theorem dX7_addHousehold_75 : decode cX7_addHousehold 75 = .ok (.getfield 75, 3) := by decide +kernel
theorem dX7_addHousehold_78 : decode cX7_addHousehold 78 = .ok (.iconst 1, 1) := by decide +kernel
theorem dX7_addHousehold_79 : decode cX7_addHousehold 79 = .ok (.iadd, 1) := by decide +kernel
theorem dX7_addHousehold_80 : decode cX7_addHousehold 80 = .ok (.putfield 75, 3) := by decide +kernel
theorem dX7_addHousehold_83 : decode cX7_addHousehold 83 = .ok (.aload_n 0, 1) := by decide +kernel
theorem dX7_addHousehold_84 : decode cX7_addHousehold 84 = .ok (.getfield 10, 3) := by decide +kernel
theorem dX7_addHousehold_87 : decode cX7_addHousehold 87 = .ok (.getfield 75, 3) := by decide +kernel
theorem dX7_addHousehold_90 : decode cX7_addHousehold 90 = .ok (.iconst 1, 1) := by decide +kernel
theorem dX7_addHousehold_91 : decode cX7_addHousehold 91 = .ok (.isub, 1) := by decide +kernel
theorem dX7_addHousehold_92 : decode cX7_addHousehold 92 = .ok (.ireturn, 1) := by decide +kernel
set_option maxRecDepth 20000 in
theorem ggX7_change_X6_hasHousehold : GoodIn wsX7_change wsX6_hasHousehold := goodIn_r _ [10, 11, 65, 66, 67, 68, 69, 70, 71, 72] (by decide +kernel) (by decide +kernel)
set_option maxRecDepth 20000 in
theorem gX7_change_X6_hasHousehold : GoodIn wsX7_change (wsV RX7 88 RX6 yX6_hasHousehold wsX6_hasHousehold) := goodIn_app (goodIn_of _ (by decide +kernel)) ggX7_change_X6_hasHousehold
set_option maxRecDepth 20000 in
theorem ggX7_change_X7_isWithin : GoodIn wsX7_change wsX7_isWithin := goodIn_r _ [15] (by decide +kernel) (by decide +kernel)
set_option maxRecDepth 20000 in
theorem gX7_change_X7_isWithin : GoodIn wsX7_change (va_wsS RX7 51 yX7_isWithin wsX7_isWithin) := goodIn_app (goodIn_of _ (by decide +kernel)) ggX7_change_X7_isWithin
set_option maxRecDepth 20000 in
theorem ggX7_change_X1_record : GoodIn wsX7_change wsX1_record := goodIn_r _ [20, 21, 22, 23, 24, 25, 19, 26, 27, 28, 29, 9, 30, 31, 32, 11, 33, 34, 35, 36, 37, 38, 39, 40, 41, 42, 43, 44, 45, 46, 47, 48, 49, 50, 51, 52, 53, 54, 55, 56, 57, 82, 83, 65, 66, 67, 68, 69, 70, 71, 72, 84, 85, 73, 74, 75, 76, 77, 78, 79, 80, 81] (by decide +kernel) (by decide +kernel)
set_option maxRecDepth 20000 in
theorem gX7_change_X1_record : GoodIn wsX7_change (wsV RX7 59 RX1 yX1_record wsX1_record) := goodIn_app (goodIn_of _ (by decide +kernel)) ggX7_change_X1_record
theorem dX7_change_0 : decode cX7_change 0 = .ok (.aload_n 0, 1) := by decide +kernel
theorem dX7_change_1 : decode cX7_change 1 = .ok (.getfield 10, 3) := by decide +kernel
theorem dX7_change_4 : decode cX7_change 4 = .ok (.iload_n 1, 1) := by decide +kernel
theorem dX7_change_5 : decode cX7_change 5 = .ok (.invokevirtual 88, 3) := by decide +kernel
theorem dX7_change_8 : decode cX7_change 8 = .ok (.ifCond .ne 5, 3) := by decide +kernel
theorem dX7_change_11 : decode cX7_change 11 = .ok (.iconst (-1), 1) := by decide +kernel
theorem dX7_change_12 : decode cX7_change 12 = .ok (.ireturn, 1) := by decide +kernel
theorem dX7_change_13 : decode cX7_change 13 = .ok (.iload_n 3, 1) := by decide +kernel
theorem dX7_change_14 : decode cX7_change 14 = .ok (.iconst 1, 1) := by decide +kernel
theorem dX7_change_15 : decode cX7_change 15 = .ok (.iload_n 2, 1) := by decide +kernel
theorem dX7_change_16 : decode cX7_change 16 = .ok (.ifCond .eq 9, 3) := by decide +kernel
theorem dX7_change_19 : decode cX7_change 19 = .ok (.sipush 9999, 3) := by decide +kernel
theorem dX7_change_22 : decode cX7_change 22 = .ok (.goto 5, 3) := by decide +kernel
theorem dX7_change_25 : decode cX7_change 25 = .ok (.bipush 9, 2) := by decide +kernel
theorem dX7_change_27 : decode cX7_change 27 = .ok (.invokestatic 51, 3) := by decide +kernel
theorem dX7_change_30 : decode cX7_change 30 = .ok (.ifCond .ne 6, 3) := by decide +kernel
theorem dX7_change_33 : decode cX7_change 33 = .ok (.bipush (-2), 2) := by decide +kernel
theorem dX7_change_35 : decode cX7_change 35 = .ok (.ireturn, 1) := by decide +kernel
theorem dX7_change_36 : decode cX7_change 36 = .ok (.aload_n 0, 1) := by decide +kernel
theorem dX7_change_37 : decode cX7_change 37 = .ok (.getfield 10, 3) := by decide +kernel
theorem dX7_change_40 : decode cX7_change 40 = .ok (.getfield 78, 3) := by decide +kernel
theorem dX7_change_43 : decode cX7_change 43 = .ok (.iload_n 1, 1) := by decide +kernel
theorem dX7_change_44 : decode cX7_change 44 = .ok (.aaload, 1) := by decide +kernel
theorem dX7_change_45 : decode cX7_change 45 = .ok (.astore 4, 2) := by decide +kernel
theorem dX7_change_47 : decode cX7_change 47 = .ok (.iload_n 2, 1) := by decide +kernel
theorem dX7_change_48 : decode cX7_change 48 = .ok (.ifCond .eq 11, 3) := by decide +kernel
theorem dX7_change_51 : decode cX7_change 51 = .ok (.aload 4, 2) := by decide +kernel
theorem dX7_change_53 : decode cX7_change 53 = .ok (.getfield 92, 3) := by decide +kernel
theorem dX7_change_56 : decode cX7_change 56 = .ok (.goto 8, 3) := by decide +kernel
theorem dX7_change_59 : decode cX7_change 59 = .ok (.aload 4, 2) := by decide +kernel
theorem dX7_change_61 : decode cX7_change 61 = .ok (.getfield 95, 3) := by decide +kernel
theorem dX7_change_64 : decode cX7_change 64 = .ok (.istore 5, 2) := by decide +kernel
theorem dX7_change_66 : decode cX7_change 66 = .ok (.iload 5, 2) := by decide +kernel
theorem dX7_change_68 : decode cX7_change 68 = .ok (.iload_n 3, 1) := by decide +kernel
theorem dX7_change_69 : decode cX7_change 69 = .ok (.if_icmp .ne 6, 3) := by decide +kernel
theorem dX7_change_72 : decode cX7_change 72 = .ok (.bipush (-5), 2) := by decide +kernel
theorem dX7_change_74 : decode cX7_change 74 = .ok (.ireturn, 1) := by decide +kernel
theorem dX7_change_75 : decode cX7_change 75 = .ok (.aload_n 0, 1) := by decide +kernel
theorem dX7_change_76 : decode cX7_change 76 = .ok (.getfield 26, 3) := by decide +kernel
theorem dX7_change_79 : decode cX7_change 79 = .ok (.aload_n 0, 1) := by decide +kernel
theorem dX7_change_80 : decode cX7_change 80 = .ok (.getfield 10, 3) := by decide +kernel
theorem dX7_change_83 : decode cX7_change 83 = .ok (.invokevirtual 59, 3) := by decide +kernel
theorem dX7_change_86 : decode cX7_change 86 = .ok (.iload_n 2, 1) := by decide +kernel
theorem dX7_change_87 : decode cX7_change 87 = .ok (.ifCond .eq 12, 3) := by decide +kernel
theorem dX7_change_90 : decode cX7_change 90 = .ok (.aload 4, 2) := by decide +kernel
theorem dX7_change_92 : decode cX7_change 92 = .ok (.iload_n 3, 1) := by decide +kernel
theorem dX7_change_93 : decode cX7_change 93 = .ok (.putfield 92, 3) := by decide +kernel
theorem dX7_change_96 : decode cX7_change 96 = .ok (.goto 9, 3) := by decide +kernel
theorem dX7_change_99 : decode cX7_change 99 = .ok (.aload 4, 2) := by decide +kernel
theorem dX7_change_101 : decode cX7_change 101 = .ok (.iload_n 3, 1) := by decide +kernel
theorem dX7_change_102 : decode cX7_change 102 = .ok (.putfield 95, 3) := by decide +kernel
theorem dX7_change_105 : decode cX7_change 105 = .ok (.iload 5, 2) := by decide +kernel
theorem dX7_change_107 : decode cX7_change 107 = .ok (.ireturn, 1) := by decide +kernel
set_option maxRecDepth 20000 in
theorem ggX7_wish_X6_hasHousehold : GoodIn wsX7_wish wsX6_hasHousehold := goodIn_r _ [9, 10, 72, 73, 74, 75, 76, 77, 78, 79] (by decide +kernel) (by decide +kernel)
set_option maxRecDepth 20000 in
theorem gX7_wish_X6_hasHousehold : GoodIn wsX7_wish (wsV RX7 88 RX6 yX6_hasHousehold wsX6_hasHousehold) := goodIn_app (goodIn_of _ (by decide +kernel)) ggX7_wish_X6_hasHousehold
set_option maxRecDepth 20000 in
theorem ggX7_wish_X6_hasFlat : GoodIn wsX7_wish wsX6_hasFlat := goodIn_r _ [14, 15, 72, 73, 74, 75, 76, 77, 78, 79] (by decide +kernel) (by decide +kernel)
set_option maxRecDepth 20000 in
theorem gX7_wish_X6_hasFlat : GoodIn wsX7_wish (wsV RX7 98 RX6 yX6_hasFlat wsX6_hasFlat) := goodIn_app (goodIn_of _ (by decide +kernel)) ggX7_wish_X6_hasFlat
set_option maxRecDepth 20000 in
theorem ggX7_wish_X2_placeOf : GoodIn wsX7_wish wsX2_placeOf := goodIn_r _ [20, 21, 22, 80, 81, 82, 83, 84, 85, 86, 87, 88] (by decide +kernel) (by decide +kernel)
set_option maxRecDepth 20000 in
theorem gX7_wish_X2_placeOf : GoodIn wsX7_wish (wsV RX7 104 RX2 yX2_placeOf wsX2_placeOf) := goodIn_app (goodIn_of _ (by decide +kernel)) ggX7_wish_X2_placeOf
set_option maxRecDepth 20000 in
theorem ggX7_wish_X1_record : GoodIn wsX7_wish wsX1_record := goodIn_r _ [27, 28, 29, 30, 31, 32, 26, 33, 34, 35, 36, 8, 37, 15, 38, 10, 39, 40, 41, 42, 43, 44, 45, 46, 47, 48, 49, 50, 51, 52, 19, 53, 22, 21, 54, 55, 56, 57, 58, 59, 60, 89, 90, 72, 73, 74, 75, 76, 77, 78, 79, 91, 92, 80, 81, 82, 83, 84, 85, 86, 87, 88] (by decide +kernel) (by decide +kernel)
set_option maxRecDepth 20000 in
theorem gX7_wish_X1_record : GoodIn wsX7_wish (wsV RX7 59 RX1 yX1_record wsX1_record) := goodIn_app (goodIn_of _ (by decide +kernel)) ggX7_wish_X1_record
set_option maxRecDepth 20000 in
theorem ggX7_wish_X2_addWish : GoodIn wsX7_wish wsX2_addWish := goodIn_r _ [64, 21, 22, 80, 81, 82, 83, 84, 85, 86, 87, 88] (by decide +kernel) (by decide +kernel)
set_option maxRecDepth 20000 in
theorem gX7_wish_X2_addWish : GoodIn wsX7_wish (wsV RX7 108 RX2 yX2_addWish wsX2_addWish) := goodIn_app (goodIn_of _ (by decide +kernel)) ggX7_wish_X2_addWish
theorem dX7_wish_0 : decode cX7_wish 0 = .ok (.aload_n 0, 1) := by decide +kernel
theorem dX7_wish_1 : decode cX7_wish 1 = .ok (.getfield 10, 3) := by decide +kernel
theorem dX7_wish_4 : decode cX7_wish 4 = .ok (.iload_n 1, 1) := by decide +kernel
theorem dX7_wish_5 : decode cX7_wish 5 = .ok (.invokevirtual 88, 3) := by decide +kernel
theorem dX7_wish_8 : decode cX7_wish 8 = .ok (.ifCond .eq 14, 3) := by decide +kernel
theorem dX7_wish_11 : decode cX7_wish 11 = .ok (.aload_n 0, 1) := by decide +kernel
theorem dX7_wish_12 : decode cX7_wish 12 = .ok (.getfield 10, 3) := by decide +kernel
theorem dX7_wish_15 : decode cX7_wish 15 = .ok (.iload_n 2, 1) := by decide +kernel
theorem dX7_wish_16 : decode cX7_wish 16 = .ok (.invokevirtual 98, 3) := by decide +kernel
theorem dX7_wish_19 : decode cX7_wish 19 = .ok (.ifCond .ne 5, 3) := by decide +kernel
theorem dX7_wish_22 : decode cX7_wish 22 = .ok (.iconst (-1), 1) := by decide +kernel
theorem dX7_wish_23 : decode cX7_wish 23 = .ok (.ireturn, 1) := by decide +kernel
theorem dX7_wish_24 : decode cX7_wish 24 = .ok (.aload_n 0, 1) := by decide +kernel
theorem dX7_wish_25 : decode cX7_wish 25 = .ok (.getfield 10, 3) := by decide +kernel
theorem dX7_wish_28 : decode cX7_wish 28 = .ok (.getfield 78, 3) := by decide +kernel
theorem dX7_wish_31 : decode cX7_wish 31 = .ok (.iload_n 1, 1) := by decide +kernel
theorem dX7_wish_32 : decode cX7_wish 32 = .ok (.aaload, 1) := by decide +kernel
theorem dX7_wish_33 : decode cX7_wish 33 = .ok (.astore_n 3, 1) := by decide +kernel
theorem dX7_wish_34 : decode cX7_wish 34 = .ok (.aload_n 3, 1) := by decide +kernel
theorem dX7_wish_35 : decode cX7_wish 35 = .ok (.getfield 101, 3) := by decide +kernel
theorem dX7_wish_38 : decode cX7_wish 38 = .ok (.bipush 6, 2) := by decide +kernel
theorem dX7_wish_40 : decode cX7_wish 40 = .ok (.if_icmp .lt 6, 3) := by decide +kernel
theorem dX7_wish_43 : decode cX7_wish 43 = .ok (.bipush (-3), 2) := by decide +kernel
theorem dX7_wish_45 : decode cX7_wish 45 = .ok (.ireturn, 1) := by decide +kernel
theorem dX7_wish_46 : decode cX7_wish 46 = .ok (.aload_n 3, 1) := by decide +kernel
theorem dX7_wish_47 : decode cX7_wish 47 = .ok (.iload_n 2, 1) := by decide +kernel
theorem dX7_wish_48 : decode cX7_wish 48 = .ok (.invokevirtual 104, 3) := by decide +kernel
theorem dX7_wish_51 : decode cX7_wish 51 = .ok (.bipush (-5), 2) := by decide +kernel
theorem dX7_wish_53 : decode cX7_wish 53 = .ok (.if_icmp .eq 6, 3) := by decide +kernel
theorem dX7_wish_56 : decode cX7_wish 56 = .ok (.bipush (-4), 2) := by decide +kernel
theorem dX7_wish_58 : decode cX7_wish 58 = .ok (.ireturn, 1) := by decide +kernel
theorem dX7_wish_59 : decode cX7_wish 59 = .ok (.aload_n 0, 1) := by decide +kernel
theorem dX7_wish_60 : decode cX7_wish 60 = .ok (.getfield 26, 3) := by decide +kernel
theorem dX7_wish_63 : decode cX7_wish 63 = .ok (.aload_n 0, 1) := by decide +kernel
theorem dX7_wish_64 : decode cX7_wish 64 = .ok (.getfield 10, 3) := by decide +kernel
theorem dX7_wish_67 : decode cX7_wish 67 = .ok (.invokevirtual 59, 3) := by decide +kernel
theorem dX7_wish_70 : decode cX7_wish 70 = .ok (.aload_n 3, 1) := by decide +kernel
theorem dX7_wish_71 : decode cX7_wish 71 = .ok (.iload_n 2, 1) := by decide +kernel
theorem dX7_wish_72 : decode cX7_wish 72 = .ok (.invokevirtual 108, 3) := by decide +kernel
theorem dX7_wish_75 : decode cX7_wish 75 = .ok (.aload_n 3, 1) := by decide +kernel
theorem dX7_wish_76 : decode cX7_wish 76 = .ok (.getfield 101, 3) := by decide +kernel
theorem dX7_wish_79 : decode cX7_wish 79 = .ok (.ireturn, 1) := by decide +kernel
set_option maxRecDepth 20000 in
theorem ggX7_unwish_X6_hasHousehold : GoodIn wsX7_unwish wsX6_hasHousehold := goodIn_r _ [8, 9, 72, 73, 74, 75, 76, 77, 78, 79] (by decide +kernel) (by decide +kernel)
set_option maxRecDepth 20000 in
theorem gX7_unwish_X6_hasHousehold : GoodIn wsX7_unwish (wsV RX7 88 RX6 yX6_hasHousehold wsX6_hasHousehold) := goodIn_app (goodIn_of _ (by decide +kernel)) ggX7_unwish_X6_hasHousehold
set_option maxRecDepth 20000 in
theorem ggX7_unwish_X6_hasFlat : GoodIn wsX7_unwish wsX6_hasFlat := goodIn_r _ [13, 14, 72, 73, 74, 75, 76, 77, 78, 79] (by decide +kernel) (by decide +kernel)
set_option maxRecDepth 20000 in
theorem gX7_unwish_X6_hasFlat : GoodIn wsX7_unwish (wsV RX7 98 RX6 yX6_hasFlat wsX6_hasFlat) := goodIn_app (goodIn_of _ (by decide +kernel)) ggX7_unwish_X6_hasFlat
set_option maxRecDepth 20000 in
theorem ggX7_unwish_X2_placeOf : GoodIn wsX7_unwish wsX2_placeOf := goodIn_r _ [19, 20, 21, 80, 81, 82, 83, 84, 85, 86, 87, 88] (by decide +kernel) (by decide +kernel)
set_option maxRecDepth 20000 in
theorem gX7_unwish_X2_placeOf : GoodIn wsX7_unwish (wsV RX7 104 RX2 yX2_placeOf wsX2_placeOf) := goodIn_app (goodIn_of _ (by decide +kernel)) ggX7_unwish_X2_placeOf
set_option maxRecDepth 20000 in
theorem ggX7_unwish_X1_record : GoodIn wsX7_unwish wsX1_record := goodIn_r _ [26, 27, 28, 29, 30, 31, 25, 32, 33, 34, 35, 7, 36, 14, 37, 9, 38, 39, 40, 41, 42, 43, 44, 45, 46, 47, 48, 49, 50, 51, 18, 52, 21, 20, 53, 54, 55, 56, 57, 58, 59, 89, 90, 72, 73, 74, 75, 76, 77, 78, 79, 91, 92, 80, 81, 82, 83, 84, 85, 86, 87, 88] (by decide +kernel) (by decide +kernel)
set_option maxRecDepth 20000 in
theorem gX7_unwish_X1_record : GoodIn wsX7_unwish (wsV RX7 59 RX1 yX1_record wsX1_record) := goodIn_app (goodIn_of _ (by decide +kernel)) ggX7_unwish_X1_record
set_option maxRecDepth 20000 in
theorem ggX7_unwish_X2_removeWish : GoodIn wsX7_unwish wsX2_removeWish := goodIn_r _ [63, 20, 21, 64, 16, 17, 18, 19, 80, 81, 82, 83, 84, 85, 86, 87, 88] (by decide +kernel) (by decide +kernel)
set_option maxRecDepth 20000 in
theorem gX7_unwish_X2_removeWish : GoodIn wsX7_unwish (wsV RX7 112 RX2 yX2_removeWish wsX2_removeWish) := goodIn_app (goodIn_of _ (by decide +kernel)) ggX7_unwish_X2_removeWish
theorem dX7_unwish_0 : decode cX7_unwish 0 = .ok (.aload_n 0, 1) := by decide +kernel
theorem dX7_unwish_1 : decode cX7_unwish 1 = .ok (.getfield 10, 3) := by decide +kernel
theorem dX7_unwish_4 : decode cX7_unwish 4 = .ok (.iload_n 1, 1) := by decide +kernel
theorem dX7_unwish_5 : decode cX7_unwish 5 = .ok (.invokevirtual 88, 3) := by decide +kernel
theorem dX7_unwish_8 : decode cX7_unwish 8 = .ok (.ifCond .eq 14, 3) := by decide +kernel
theorem dX7_unwish_11 : decode cX7_unwish 11 = .ok (.aload_n 0, 1) := by decide +kernel
theorem dX7_unwish_12 : decode cX7_unwish 12 = .ok (.getfield 10, 3) := by decide +kernel
theorem dX7_unwish_15 : decode cX7_unwish 15 = .ok (.iload_n 2, 1) := by decide +kernel
theorem dX7_unwish_16 : decode cX7_unwish 16 = .ok (.invokevirtual 98, 3) := by decide +kernel
theorem dX7_unwish_19 : decode cX7_unwish 19 = .ok (.ifCond .ne 5, 3) := by decide +kernel
theorem dX7_unwish_22 : decode cX7_unwish 22 = .ok (.iconst (-1), 1) := by decide +kernel
theorem dX7_unwish_23 : decode cX7_unwish 23 = .ok (.ireturn, 1) := by decide +kernel
theorem dX7_unwish_24 : decode cX7_unwish 24 = .ok (.aload_n 0, 1) := by decide +kernel
theorem dX7_unwish_25 : decode cX7_unwish 25 = .ok (.getfield 10, 3) := by decide +kernel
theorem dX7_unwish_28 : decode cX7_unwish 28 = .ok (.getfield 78, 3) := by decide +kernel
theorem dX7_unwish_31 : decode cX7_unwish 31 = .ok (.iload_n 1, 1) := by decide +kernel
theorem dX7_unwish_32 : decode cX7_unwish 32 = .ok (.aaload, 1) := by decide +kernel
theorem dX7_unwish_33 : decode cX7_unwish 33 = .ok (.astore_n 3, 1) := by decide +kernel
theorem dX7_unwish_34 : decode cX7_unwish 34 = .ok (.aload_n 3, 1) := by decide +kernel
theorem dX7_unwish_35 : decode cX7_unwish 35 = .ok (.iload_n 2, 1) := by decide +kernel
theorem dX7_unwish_36 : decode cX7_unwish 36 = .ok (.invokevirtual 104, 3) := by decide +kernel
theorem dX7_unwish_39 : decode cX7_unwish 39 = .ok (.istore 4, 2) := by decide +kernel
theorem dX7_unwish_41 : decode cX7_unwish 41 = .ok (.iload 4, 2) := by decide +kernel
theorem dX7_unwish_43 : decode cX7_unwish 43 = .ok (.bipush (-5), 2) := by decide +kernel
theorem dX7_unwish_45 : decode cX7_unwish 45 = .ok (.if_icmp .ne 6, 3) := by decide +kernel
theorem dX7_unwish_48 : decode cX7_unwish 48 = .ok (.bipush (-5), 2) := by decide +kernel
theorem dX7_unwish_50 : decode cX7_unwish 50 = .ok (.ireturn, 1) := by decide +kernel
theorem dX7_unwish_51 : decode cX7_unwish 51 = .ok (.aload_n 0, 1) := by decide +kernel
theorem dX7_unwish_52 : decode cX7_unwish 52 = .ok (.getfield 26, 3) := by decide +kernel
theorem dX7_unwish_55 : decode cX7_unwish 55 = .ok (.aload_n 0, 1) := by decide +kernel
theorem dX7_unwish_56 : decode cX7_unwish 56 = .ok (.getfield 10, 3) := by decide +kernel
theorem dX7_unwish_59 : decode cX7_unwish 59 = .ok (.invokevirtual 59, 3) := by decide +kernel
theorem dX7_unwish_62 : decode cX7_unwish 62 = .ok (.aload_n 3, 1) := by decide +kernel
theorem dX7_unwish_63 : decode cX7_unwish 63 = .ok (.iload_n 2, 1) := by decide +kernel
theorem dX7_unwish_64 : decode cX7_unwish 64 = .ok (.invokevirtual 112, 3) := by decide +kernel
theorem dX7_unwish_67 : decode cX7_unwish 67 = .ok (.iload 4, 2) := by decide +kernel
theorem dX7_unwish_69 : decode cX7_unwish 69 = .ok (.ireturn, 1) := by decide +kernel
set_option maxRecDepth 20000 in
theorem ggX7_readLists_X3_findFault : GoodIn wsX7_readLists wsX3_findFault := goodIn_r _ [9, 10, 11, 12, 13, 14, 8, 15, 16, 17, 18, 19, 20, 21, 22, 23, 24, 25, 26, 27, 28, 29, 30, 31, 32, 110, 111, 112, 113, 114, 115, 116] (by decide +kernel) (by decide +kernel)
set_option maxRecDepth 20000 in
theorem gX7_readLists_X3_findFault : GoodIn wsX7_readLists (wsV RX7 115 RX3 yX3_findFault wsX3_findFault) := goodIn_app (goodIn_of _ (by decide +kernel)) ggX7_readLists_X3_findFault
set_option maxRecDepth 20000 in
theorem ggX7_readLists_X3_namesOnlyKnown : GoodIn wsX7_readLists wsX3_namesOnlyKnown := goodIn_r _ [36, 11, 16, 18, 17, 37, 38, 39, 40, 41, 42, 43, 44, 45, 46, 47, 110, 111, 112, 113, 114, 115, 116, 117, 118, 119, 120, 121, 122, 123, 124] (by decide +kernel) (by decide +kernel)
set_option maxRecDepth 20000 in
theorem gX7_readLists_X3_namesOnlyKnown : GoodIn wsX7_readLists (wsV RX7 119 RX3 yX3_namesOnlyKnown wsX3_namesOnlyKnown) := goodIn_app (goodIn_of _ (by decide +kernel)) ggX7_readLists_X3_namesOnlyKnown
set_option maxRecDepth 20000 in
theorem ggX7_readLists_X3_hasFlatTwiceInList : GoodIn wsX7_readLists wsX3_hasFlatTwiceInList := goodIn_r _ [51, 11, 18, 17, 110, 111, 112, 113, 114, 115, 116] (by decide +kernel) (by decide +kernel)
set_option maxRecDepth 20000 in
theorem gX7_readLists_X3_hasFlatTwiceInList : GoodIn wsX7_readLists (wsV RX7 123 RX3 yX3_hasFlatTwiceInList wsX3_hasFlatTwiceInList) := goodIn_app (goodIn_of _ (by decide +kernel)) ggX7_readLists_X3_hasFlatTwiceInList
set_option maxRecDepth 20000 in
theorem ggX7_readLists_X1_record : GoodIn wsX7_readLists wsX1_record := goodIn_r _ [56, 57, 58, 59, 60, 61, 55, 62, 63, 64, 65, 40, 66, 47, 67, 42, 68, 69, 70, 71, 72, 73, 74, 75, 76, 77, 78, 79, 80, 81, 82, 83, 84, 85, 86, 87, 88, 89, 90, 91, 92, 125, 126, 117, 118, 119, 120, 121, 122, 123, 124, 127, 128, 129, 130, 131, 132, 133, 134, 135, 136, 137] (by decide +kernel) (by decide +kernel)
set_option maxRecDepth 20000 in
theorem gX7_readLists_X1_record : GoodIn wsX7_readLists (wsV RX7 59 RX1 yX1_record wsX1_record) := goodIn_app (goodIn_of _ (by decide +kernel)) ggX7_readLists_X1_record
set_option maxRecDepth 20000 in
theorem ggX7_readLists_X3_layLists : GoodIn wsX7_readLists wsX3_layLists := goodIn_r _ [96, 11, 16, 97, 98, 18, 17, 37, 38, 39, 40, 41, 42, 99, 100, 101, 82, 102, 85, 84, 110, 111, 112, 113, 114, 115, 116, 117, 118, 119, 120, 121, 122, 123, 124, 129, 130, 131, 132, 133, 134, 135, 136, 137] (by decide +kernel) (by decide +kernel)
set_option maxRecDepth 20000 in
theorem gX7_readLists_X3_layLists : GoodIn wsX7_readLists (wsV RX7 127 RX3 yX3_layLists wsX3_layLists) := goodIn_app (goodIn_of _ (by decide +kernel)) ggX7_readLists_X3_layLists
theorem dX7_readLists_0 : decode cX7_readLists 0 = .ok (.aload_n 0, 1) := by decide +kernel
theorem dX7_readLists_1 : decode cX7_readLists 1 = .ok (.getfield 33, 3) := by decide +kernel
theorem dX7_readLists_4 : decode cX7_readLists 4 = .ok (.invokevirtual 115, 3) := by decide +kernel
theorem dX7_readLists_7 : decode cX7_readLists 7 = .ok (.istore_n 1, 1) := by decide +kernel
theorem dX7_readLists_8 : decode cX7_readLists 8 = .ok (.iload_n 1, 1) := by decide +kernel
theorem dX7_readLists_9 : decode cX7_readLists 9 = .ok (.bipush (-5), 2) := by decide +kernel
theorem dX7_readLists_11 : decode cX7_readLists 11 = .ok (.if_icmp .eq 8, 3) := by decide +kernel
theorem dX7_readLists_14 : decode cX7_readLists 14 = .ok (.bipush (-100), 2) := by decide +kernel
theorem dX7_readLists_16 : decode cX7_readLists 16 = .ok (.iload_n 1, 1) := by decide +kernel
theorem dX7_readLists_17 : decode cX7_readLists 17 = .ok (.isub, 1) := by decide +kernel
theorem dX7_readLists_18 : decode cX7_readLists 18 = .ok (.ireturn, 1) := by decide +kernel
theorem dX7_readLists_19 : decode cX7_readLists 19 = .ok (.aload_n 0, 1) := by decide +kernel
theorem dX7_readLists_20 : decode cX7_readLists 20 = .ok (.getfield 33, 3) := by decide +kernel
theorem dX7_readLists_23 : decode cX7_readLists 23 = .ok (.aload_n 0, 1) := by decide +kernel
theorem dX7_readLists_24 : decode cX7_readLists 24 = .ok (.getfield 10, 3) := by decide +kernel
theorem dX7_readLists_27 : decode cX7_readLists 27 = .ok (.invokevirtual 119, 3) := by decide +kernel
theorem dX7_readLists_30 : decode cX7_readLists 30 = .ok (.ifCond .ne 5, 3) := by decide +kernel
theorem dX7_readLists_33 : decode cX7_readLists 33 = .ok (.iconst (-1), 1) := by decide +kernel
theorem dX7_readLists_34 : decode cX7_readLists 34 = .ok (.ireturn, 1) := by decide +kernel
theorem dX7_readLists_35 : decode cX7_readLists 35 = .ok (.aload_n 0, 1) := by decide +kernel
theorem dX7_readLists_36 : decode cX7_readLists 36 = .ok (.getfield 33, 3) := by decide +kernel
theorem dX7_readLists_39 : decode cX7_readLists 39 = .ok (.invokevirtual 123, 3) := by decide +kernel
theorem dX7_readLists_42 : decode cX7_readLists 42 = .ok (.ifCond .eq 6, 3) := by decide +kernel
theorem dX7_readLists_45 : decode cX7_readLists 45 = .ok (.bipush (-2), 2) := by decide +kernel
theorem dX7_readLists_47 : decode cX7_readLists 47 = .ok (.ireturn, 1) := by decide +kernel
theorem dX7_readLists_48 : decode cX7_readLists 48 = .ok (.aload_n 0, 1) := by decide +kernel
theorem dX7_readLists_49 : decode cX7_readLists 49 = .ok (.getfield 26, 3) := by decide +kernel
theorem dX7_readLists_52 : decode cX7_readLists 52 = .ok (.aload_n 0, 1) := by decide +kernel
theorem dX7_readLists_53 : decode cX7_readLists 53 = .ok (.getfield 10, 3) := by decide +kernel
theorem dX7_readLists_56 : decode cX7_readLists 56 = .ok (.invokevirtual 59, 3) := by decide +kernel
theorem dX7_readLists_59 : decode cX7_readLists 59 = .ok (.aload_n 0, 1) := by decide +kernel
theorem dX7_readLists_60 : decode cX7_readLists 60 = .ok (.getfield 33, 3) := by decide +kernel
theorem dX7_readLists_63 : decode cX7_readLists 63 = .ok (.aload_n 0, 1) := by decide +kernel
theorem dX7_readLists_64 : decode cX7_readLists 64 = .ok (.getfield 10, 3) := by decide +kernel
theorem dX7_readLists_67 : decode cX7_readLists 67 = .ok (.invokevirtual 127, 3) := by decide +kernel
theorem dX7_readLists_70 : decode cX7_readLists 70 = .ok (.aload_n 0, 1) := by decide +kernel
theorem dX7_readLists_71 : decode cX7_readLists 71 = .ok (.getfield 33, 3) := by decide +kernel
theorem dX7_readLists_74 : decode cX7_readLists 74 = .ok (.getfield 130, 3) := by decide +kernel
theorem dX7_readLists_77 : decode cX7_readLists 77 = .ok (.ireturn, 1) := by decide +kernel
set_option maxRecDepth 20000 in
theorem ggX7_draw_X6_hasHousehold : GoodIn wsX7_draw wsX6_hasHousehold := goodIn_r _ [9, 10, 73, 74, 75, 76, 77, 78, 79, 80] (by decide +kernel) (by decide +kernel)
set_option maxRecDepth 20000 in
theorem gX7_draw_X6_hasHousehold : GoodIn wsX7_draw (wsV RX7 88 RX6 yX6_hasHousehold wsX6_hasHousehold) := goodIn_app (goodIn_of _ (by decide +kernel)) ggX7_draw_X6_hasHousehold
set_option maxRecDepth 20000 in
theorem ggX7_draw_X7_isWithin : GoodIn wsX7_draw wsX7_isWithin := goodIn_r _ [14] (by decide +kernel) (by decide +kernel)
set_option maxRecDepth 20000 in
theorem gX7_draw_X7_isWithin : GoodIn wsX7_draw (va_wsS RX7 51 yX7_isWithin wsX7_isWithin) := goodIn_app (goodIn_of _ (by decide +kernel)) ggX7_draw_X7_isWithin
set_option maxRecDepth 20000 in
theorem ggX7_draw_X6_ownerOfNumber : GoodIn wsX7_draw wsX6_ownerOfNumber := goodIn_r _ [18, 10, 19, 20, 73, 74, 75, 76, 77, 78, 79, 80, 81, 82, 83, 84, 85, 86, 87, 88, 89] (by decide +kernel) (by decide +kernel)
set_option maxRecDepth 20000 in
theorem gX7_draw_X6_ownerOfNumber : GoodIn wsX7_draw (wsV RX7 133 RX6 yX6_ownerOfNumber wsX6_ownerOfNumber) := goodIn_app (goodIn_of _ (by decide +kernel)) ggX7_draw_X6_ownerOfNumber
set_option maxRecDepth 20000 in
theorem ggX7_draw_X1_record : GoodIn wsX7_draw wsX1_record := goodIn_r _ [25, 26, 27, 28, 29, 30, 24, 31, 32, 33, 34, 8, 35, 36, 37, 10, 19, 38, 39, 40, 41, 42, 43, 44, 45, 46, 47, 48, 49, 50, 51, 52, 53, 54, 55, 56, 57, 58, 59, 60, 61, 90, 91, 73, 74, 75, 76, 77, 78, 79, 80, 92, 93, 81, 82, 83, 84, 85, 86, 87, 88, 89] (by decide +kernel) (by decide +kernel)
set_option maxRecDepth 20000 in
theorem gX7_draw_X1_record : GoodIn wsX7_draw (wsV RX7 59 RX1 yX1_record wsX1_record) := goodIn_app (goodIn_of _ (by decide +kernel)) ggX7_draw_X1_record
set_option maxRecDepth 20000 in
theorem ggX7_draw_X6_countNumbered : GoodIn wsX7_draw wsX6_countNumbered := goodIn_r _ [65, 10, 19, 20, 73, 74, 75, 76, 77, 78, 79, 80, 81, 82, 83, 84, 85, 86, 87, 88, 89] (by decide +kernel) (by decide +kernel)
set_option maxRecDepth 20000 in
theorem gX7_draw_X6_countNumbered : GoodIn wsX7_draw (wsV RX7 139 RX6 yX6_countNumbered wsX6_countNumbered) := goodIn_app (goodIn_of _ (by decide +kernel)) ggX7_draw_X6_countNumbered
theorem dX7_draw_0 : decode cX7_draw 0 = .ok (.aload_n 0, 1) := by decide +kernel
theorem dX7_draw_1 : decode cX7_draw 1 = .ok (.getfield 10, 3) := by decide +kernel
theorem dX7_draw_4 : decode cX7_draw 4 = .ok (.iload_n 1, 1) := by decide +kernel
theorem dX7_draw_5 : decode cX7_draw 5 = .ok (.invokevirtual 88, 3) := by decide +kernel
theorem dX7_draw_8 : decode cX7_draw 8 = .ok (.ifCond .ne 5, 3) := by decide +kernel
theorem dX7_draw_11 : decode cX7_draw 11 = .ok (.iconst (-1), 1) := by decide +kernel
theorem dX7_draw_12 : decode cX7_draw 12 = .ok (.ireturn, 1) := by decide +kernel
theorem dX7_draw_13 : decode cX7_draw 13 = .ok (.iload_n 2, 1) := by decide +kernel
theorem dX7_draw_14 : decode cX7_draw 14 = .ok (.iconst 1, 1) := by decide +kernel
theorem dX7_draw_15 : decode cX7_draw 15 = .ok (.sipush 999, 3) := by decide +kernel
theorem dX7_draw_18 : decode cX7_draw 18 = .ok (.invokestatic 51, 3) := by decide +kernel
theorem dX7_draw_21 : decode cX7_draw 21 = .ok (.ifCond .ne 6, 3) := by decide +kernel
theorem dX7_draw_24 : decode cX7_draw 24 = .ok (.bipush (-2), 2) := by decide +kernel
theorem dX7_draw_26 : decode cX7_draw 26 = .ok (.ireturn, 1) := by decide +kernel
theorem dX7_draw_27 : decode cX7_draw 27 = .ok (.aload_n 0, 1) := by decide +kernel
theorem dX7_draw_28 : decode cX7_draw 28 = .ok (.getfield 10, 3) := by decide +kernel
theorem dX7_draw_31 : decode cX7_draw 31 = .ok (.iload_n 2, 1) := by decide +kernel
theorem dX7_draw_32 : decode cX7_draw 32 = .ok (.invokevirtual 133, 3) := by decide +kernel
theorem dX7_draw_35 : decode cX7_draw 35 = .ok (.istore_n 3, 1) := by decide +kernel
theorem dX7_draw_36 : decode cX7_draw 36 = .ok (.iload_n 3, 1) := by decide +kernel
theorem dX7_draw_37 : decode cX7_draw 37 = .ok (.iload_n 1, 1) := by decide +kernel
theorem dX7_draw_38 : decode cX7_draw 38 = .ok (.if_icmp .ne 6, 3) := by decide +kernel
theorem dX7_draw_41 : decode cX7_draw 41 = .ok (.bipush (-5), 2) := by decide +kernel
theorem dX7_draw_43 : decode cX7_draw 43 = .ok (.ireturn, 1) := by decide +kernel
theorem dX7_draw_44 : decode cX7_draw 44 = .ok (.iload_n 3, 1) := by decide +kernel
theorem dX7_draw_45 : decode cX7_draw 45 = .ok (.bipush (-5), 2) := by decide +kernel
theorem dX7_draw_47 : decode cX7_draw 47 = .ok (.if_icmp .eq 6, 3) := by decide +kernel
theorem dX7_draw_50 : decode cX7_draw 50 = .ok (.bipush (-4), 2) := by decide +kernel
theorem dX7_draw_52 : decode cX7_draw 52 = .ok (.ireturn, 1) := by decide +kernel
theorem dX7_draw_53 : decode cX7_draw 53 = .ok (.aload_n 0, 1) := by decide +kernel
theorem dX7_draw_54 : decode cX7_draw 54 = .ok (.getfield 26, 3) := by decide +kernel
theorem dX7_draw_57 : decode cX7_draw 57 = .ok (.aload_n 0, 1) := by decide +kernel
theorem dX7_draw_58 : decode cX7_draw 58 = .ok (.getfield 10, 3) := by decide +kernel
theorem dX7_draw_61 : decode cX7_draw 61 = .ok (.invokevirtual 59, 3) := by decide +kernel
theorem dX7_draw_64 : decode cX7_draw 64 = .ok (.aload_n 0, 1) := by decide +kernel
theorem dX7_draw_65 : decode cX7_draw 65 = .ok (.getfield 10, 3) := by decide +kernel
theorem dX7_draw_68 : decode cX7_draw 68 = .ok (.getfield 78, 3) := by decide +kernel
theorem dX7_draw_71 : decode cX7_draw 71 = .ok (.iload_n 1, 1) := by decide +kernel
theorem dX7_draw_72 : decode cX7_draw 72 = .ok (.aaload, 1) := by decide +kernel
theorem dX7_draw_73 : decode cX7_draw 73 = .ok (.iload_n 2, 1) := by decide +kernel
theorem dX7_draw_74 : decode cX7_draw 74 = .ok (.putfield 136, 3) := by decide +kernel
theorem dX7_draw_77 : decode cX7_draw 77 = .ok (.aload_n 0, 1) := by decide +kernel
theorem dX7_draw_78 : decode cX7_draw 78 = .ok (.getfield 10, 3) := by decide +kernel
theorem dX7_draw_81 : decode cX7_draw 81 = .ok (.invokevirtual 139, 3) := by decide +kernel
theorem dX7_draw_84 : decode cX7_draw 84 = .ok (.ireturn, 1) := by decide +kernel
set_option maxRecDepth 20000 in
theorem ggX7_round_X6_countNumbered : GoodIn wsX7_round wsX6_countNumbered := goodIn_r _ [8, 9, 10, 11, 103, 104, 105, 106, 107, 108, 109, 110, 111, 112, 113, 114, 115, 116, 117, 118, 119] (by decide +kernel) (by decide +kernel)
set_option maxRecDepth 20000 in
theorem gX7_round_X6_countNumbered : GoodIn wsX7_round (wsV RX7 139 RX6 yX6_countNumbered wsX6_countNumbered) := goodIn_app (goodIn_of _ (by decide +kernel)) ggX7_round_X6_countNumbered
set_option maxRecDepth 20000 in
theorem ggX7_round_X1_record : GoodIn wsX7_round wsX1_record := goodIn_r _ [16, 17, 18, 19, 20, 21, 15, 22, 23, 24, 25, 7, 26, 27, 28, 9, 10, 29, 30, 31, 32, 33, 34, 35, 36, 37, 38, 39, 40, 41, 42, 43, 44, 45, 46, 47, 48, 49, 50, 51, 52, 120, 121, 103, 104, 105, 106, 107, 108, 109, 110, 122, 123, 111, 112, 113, 114, 115, 116, 117, 118, 119] (by decide +kernel) (by decide +kernel)
set_option maxRecDepth 20000 in
theorem gX7_round_X1_record : GoodIn wsX7_round (wsV RX7 59 RX1 yX1_record wsX1_record) := goodIn_app (goodIn_of _ (by decide +kernel)) ggX7_round_X1_record
set_option maxRecDepth 20000 in
theorem ggX7_round_X6_giveFlatsInOrder : GoodIn wsX7_round wsX6_giveFlatsInOrder := goodIn_r _ [56, 10, 57, 58, 59, 60, 61, 62, 7, 63, 9, 64, 65, 66, 67, 68, 69, 70, 71, 11, 72, 73, 74, 42, 75, 48, 49, 76, 77, 78, 79, 80, 81, 82, 83, 84, 85, 28, 86, 87, 88, 89, 27, 90, 91, 92, 93, 46, 94, 95, 47, 103, 104, 105, 106, 107, 108, 109, 110, 111, 112, 113, 114, 115, 116, 117, 118, 119, 122, 123] (by decide +kernel) (by decide +kernel)
set_option maxRecDepth 20000 in
theorem gX7_round_X6_giveFlatsInOrder : GoodIn wsX7_round (wsV RX7 145 RX6 yX6_giveFlatsInOrder wsX6_giveFlatsInOrder) := goodIn_app (goodIn_of _ (by decide +kernel)) ggX7_round_X6_giveFlatsInOrder
theorem dX7_round_0 : decode cX7_round 0 = .ok (.aload_n 0, 1) := by decide +kernel
theorem dX7_round_1 : decode cX7_round 1 = .ok (.getfield 10, 3) := by decide +kernel
theorem dX7_round_4 : decode cX7_round 4 = .ok (.invokevirtual 139, 3) := by decide +kernel
theorem dX7_round_7 : decode cX7_round 7 = .ok (.ifCond .ne 6, 3) := by decide +kernel
theorem dX7_round_10 : decode cX7_round 10 = .ok (.bipush (-4), 2) := by decide +kernel
theorem dX7_round_12 : decode cX7_round 12 = .ok (.ireturn, 1) := by decide +kernel
theorem dX7_round_13 : decode cX7_round 13 = .ok (.aload_n 0, 1) := by decide +kernel
theorem dX7_round_14 : decode cX7_round 14 = .ok (.getfield 26, 3) := by decide +kernel
theorem dX7_round_17 : decode cX7_round 17 = .ok (.aload_n 0, 1) := by decide +kernel
theorem dX7_round_18 : decode cX7_round 18 = .ok (.getfield 10, 3) := by decide +kernel
theorem dX7_round_21 : decode cX7_round 21 = .ok (.invokevirtual 59, 3) := by decide +kernel
theorem dX7_round_24 : decode cX7_round 24 = .ok (.aload_n 0, 1) := by decide +kernel
theorem dX7_round_25 : decode cX7_round 25 = .ok (.getfield 10, 3) := by decide +kernel
theorem dX7_round_28 : decode cX7_round 28 = .ok (.dup, 1) := by decide +kernel
theorem dX7_round_29 : decode cX7_round 29 = .ok (.getfield 142, 3) := by decide +kernel
theorem dX7_round_32 : decode cX7_round 32 = .ok (.iconst 1, 1) := by decide +kernel
theorem dX7_round_33 : decode cX7_round 33 = .ok (.iadd, 1) := by decide +kernel
theorem dX7_round_34 : decode cX7_round 34 = .ok (.putfield 142, 3) := by decide +kernel
theorem dX7_round_37 : decode cX7_round 37 = .ok (.aload_n 0, 1) := by decide +kernel
theorem dX7_round_38 : decode cX7_round 38 = .ok (.getfield 10, 3) := by decide +kernel
theorem dX7_round_41 : decode cX7_round 41 = .ok (.invokevirtual 145, 3) := by decide +kernel
theorem dX7_round_44 : decode cX7_round 44 = .ok (.ireturn, 1) := by decide +kernel
set_option maxRecDepth 20000 in
theorem ggX7_decline_X6_hasHousehold : GoodIn wsX7_decline wsX6_hasHousehold := goodIn_r _ [15, 16, 74, 75, 76, 77, 78, 79, 80, 81] (by decide +kernel) (by decide +kernel)
set_option maxRecDepth 20000 in
theorem gX7_decline_X6_hasHousehold : GoodIn wsX7_decline (wsV RX7 88 RX6 yX6_hasHousehold wsX6_hasHousehold) := goodIn_app (goodIn_of _ (by decide +kernel)) ggX7_decline_X6_hasHousehold
set_option maxRecDepth 20000 in
theorem ggX7_decline_X1_record : GoodIn wsX7_decline wsX1_record := goodIn_r _ [21, 22, 23, 24, 25, 26, 20, 27, 28, 29, 30, 14, 31, 32, 33, 16, 34, 35, 36, 37, 38, 39, 40, 41, 42, 43, 44, 45, 46, 47, 48, 49, 50, 51, 52, 53, 54, 55, 56, 57, 58, 91, 92, 74, 75, 76, 77, 78, 79, 80, 81, 93, 94, 82, 83, 84, 85, 86, 87, 88, 89, 90] (by decide +kernel) (by decide +kernel)
set_option maxRecDepth 20000 in
theorem gX7_decline_X1_record : GoodIn wsX7_decline (wsV RX7 59 RX1 yX1_record wsX1_record) := goodIn_app (goodIn_of _ (by decide +kernel)) ggX7_decline_X1_record
set_option maxRecDepth 20000 in
theorem ggX7_decline_X2_removeWish : GoodIn wsX7_decline wsX2_removeWish := goodIn_r _ [62, 51, 50, 63, 64, 65, 48, 66, 82, 83, 84, 85, 86, 87, 88, 89, 90] (by decide +kernel) (by decide +kernel)
set_option maxRecDepth 20000 in
theorem gX7_decline_X2_removeWish : GoodIn wsX7_decline (wsV RX7 112 RX2 yX2_removeWish wsX2_removeWish) := goodIn_app (goodIn_of _ (by decide +kernel)) ggX7_decline_X2_removeWish
theorem dX7_decline_0 : decode cX7_decline 0 = .ok (.aload_n 0, 1) := by decide +kernel
theorem dX7_decline_1 : decode cX7_decline 1 = .ok (.getfield 10, 3) := by decide +kernel
theorem dX7_decline_4 : decode cX7_decline 4 = .ok (.iload_n 1, 1) := by decide +kernel
theorem dX7_decline_5 : decode cX7_decline 5 = .ok (.invokevirtual 88, 3) := by decide +kernel
theorem dX7_decline_8 : decode cX7_decline 8 = .ok (.ifCond .ne 5, 3) := by decide +kernel
theorem dX7_decline_11 : decode cX7_decline 11 = .ok (.iconst (-1), 1) := by decide +kernel
theorem dX7_decline_12 : decode cX7_decline 12 = .ok (.ireturn, 1) := by decide +kernel
theorem dX7_decline_13 : decode cX7_decline 13 = .ok (.aload_n 0, 1) := by decide +kernel
theorem dX7_decline_14 : decode cX7_decline 14 = .ok (.getfield 10, 3) := by decide +kernel
theorem dX7_decline_17 : decode cX7_decline 17 = .ok (.getfield 78, 3) := by decide +kernel
theorem dX7_decline_20 : decode cX7_decline 20 = .ok (.iload_n 1, 1) := by decide +kernel
theorem dX7_decline_21 : decode cX7_decline 21 = .ok (.aaload, 1) := by decide +kernel
theorem dX7_decline_22 : decode cX7_decline 22 = .ok (.astore_n 2, 1) := by decide +kernel
theorem dX7_decline_23 : decode cX7_decline 23 = .ok (.aload_n 2, 1) := by decide +kernel
theorem dX7_decline_24 : decode cX7_decline 24 = .ok (.getfield 148, 3) := by decide +kernel
theorem dX7_decline_27 : decode cX7_decline 27 = .ok (.istore_n 3, 1) := by decide +kernel
theorem dX7_decline_28 : decode cX7_decline 28 = .ok (.iload_n 3, 1) := by decide +kernel
theorem dX7_decline_29 : decode cX7_decline 29 = .ok (.bipush (-5), 2) := by decide +kernel
theorem dX7_decline_31 : decode cX7_decline 31 = .ok (.if_icmp .ne 6, 3) := by decide +kernel
theorem dX7_decline_34 : decode cX7_decline 34 = .ok (.bipush (-4), 2) := by decide +kernel
theorem dX7_decline_36 : decode cX7_decline 36 = .ok (.ireturn, 1) := by decide +kernel
theorem dX7_decline_37 : decode cX7_decline 37 = .ok (.aload_n 0, 1) := by decide +kernel
theorem dX7_decline_38 : decode cX7_decline 38 = .ok (.getfield 26, 3) := by decide +kernel
theorem dX7_decline_41 : decode cX7_decline 41 = .ok (.aload_n 0, 1) := by decide +kernel
theorem dX7_decline_42 : decode cX7_decline 42 = .ok (.getfield 10, 3) := by decide +kernel
theorem dX7_decline_45 : decode cX7_decline 45 = .ok (.invokevirtual 59, 3) := by decide +kernel
theorem dX7_decline_48 : decode cX7_decline 48 = .ok (.aload_n 2, 1) := by decide +kernel
theorem dX7_decline_49 : decode cX7_decline 49 = .ok (.bipush (-5), 2) := by decide +kernel
theorem dX7_decline_51 : decode cX7_decline 51 = .ok (.putfield 148, 3) := by decide +kernel
theorem dX7_decline_54 : decode cX7_decline 54 = .ok (.aload_n 2, 1) := by decide +kernel
theorem dX7_decline_55 : decode cX7_decline 55 = .ok (.iload_n 3, 1) := by decide +kernel
theorem dX7_decline_56 : decode cX7_decline 56 = .ok (.invokevirtual 112, 3) := by decide +kernel
theorem dX7_decline_59 : decode cX7_decline 59 = .ok (.aload_n 2, 1) := by decide +kernel
theorem dX7_decline_60 : decode cX7_decline 60 = .ok (.aload_n 2, 1) := by decide +kernel
theorem dX7_decline_61 : decode cX7_decline 61 = .ok (.getfield 151, 3) := by decide +kernel
theorem dX7_decline_64 : decode cX7_decline 64 = .ok (.iconst 1, 1) := by decide +kernel
theorem dX7_decline_65 : decode cX7_decline 65 = .ok (.isub, 1) := by decide +kernel
theorem dX7_decline_66 : decode cX7_decline 66 = .ok (.iconst 0, 1) := by decide +kernel
theorem dX7_decline_67 : decode cX7_decline 67 = .ok (.invokestatic 154, 3) := by decide +kernel
theorem dX7_decline_70 : decode cX7_decline 70 = .ok (.putfield 151, 3) := by decide +kernel
theorem dX7_decline_73 : decode cX7_decline 73 = .ok (.aload_n 0, 1) := by decide +kernel
theorem dX7_decline_74 : decode cX7_decline 74 = .ok (.getfield 10, 3) := by decide +kernel
theorem dX7_decline_77 : decode cX7_decline 77 = .ok (.dup, 1) := by decide +kernel
theorem dX7_decline_78 : decode cX7_decline 78 = .ok (.getfield 160, 3) := by decide +kernel
theorem dX7_decline_81 : decode cX7_decline 81 = .ok (.iconst 1, 1) := by decide +kernel
theorem dX7_decline_82 : decode cX7_decline 82 = .ok (.iadd, 1) := by decide +kernel
theorem dX7_decline_83 : decode cX7_decline 83 = .ok (.putfield 160, 3) := by decide +kernel
theorem dX7_decline_86 : decode cX7_decline 86 = .ok (.iload_n 3, 1) := by decide +kernel
theorem dX7_decline_87 : decode cX7_decline 87 = .ok (.ireturn, 1) := by decide +kernel
set_option maxRecDepth 20000 in
theorem ggX7_appeal_X6_hasHousehold : GoodIn wsX7_appeal wsX6_hasHousehold := goodIn_r _ [11, 12, 117, 118, 119, 120, 121, 122, 123, 124] (by decide +kernel) (by decide +kernel)
set_option maxRecDepth 20000 in
theorem gX7_appeal_X6_hasHousehold : GoodIn wsX7_appeal (wsV RX7 88 RX6 yX6_hasHousehold wsX6_hasHousehold) := goodIn_app (goodIn_of _ (by decide +kernel)) ggX7_appeal_X6_hasHousehold
set_option maxRecDepth 20000 in
theorem ggX7_appeal_X7_isWithin : GoodIn wsX7_appeal wsX7_isWithin := goodIn_r _ [16] (by decide +kernel) (by decide +kernel)
set_option maxRecDepth 20000 in
theorem gX7_appeal_X7_isWithin : GoodIn wsX7_appeal (va_wsS RX7 51 yX7_isWithin wsX7_isWithin) := goodIn_app (goodIn_of _ (by decide +kernel)) ggX7_appeal_X7_isWithin
set_option maxRecDepth 20000 in
theorem ggX7_appeal_X1_record : GoodIn wsX7_appeal wsX1_record := goodIn_r _ [21, 22, 23, 24, 25, 26, 20, 27, 28, 29, 30, 10, 31, 32, 33, 12, 34, 35, 36, 37, 38, 39, 40, 41, 42, 43, 44, 45, 46, 47, 48, 49, 50, 51, 52, 53, 54, 55, 56, 57, 58, 134, 135, 117, 118, 119, 120, 121, 122, 123, 124, 136, 137, 125, 126, 127, 128, 129, 130, 131, 132, 133] (by decide +kernel) (by decide +kernel)
set_option maxRecDepth 20000 in
theorem gX7_appeal_X1_record : GoodIn wsX7_appeal (wsV RX7 59 RX1 yX1_record wsX1_record) := goodIn_app (goodIn_of _ (by decide +kernel)) ggX7_appeal_X1_record
set_option maxRecDepth 20000 in
theorem ggX7_appeal_X6_reasonHolds : GoodIn wsX7_appeal wsX6_reasonHolds := goodIn_r _ [62, 63, 64, 65, 10, 66, 67, 68, 69, 70, 71, 72, 73, 74, 33, 75, 76, 77, 78, 79, 32, 80, 81, 82, 83, 12, 34, 84, 85, 86, 87, 88, 89, 90, 48, 91, 56, 92, 93, 94, 95, 51, 50, 96, 97, 98, 99, 100, 101, 102, 103, 52, 104, 105, 53, 106, 107, 108, 109, 54, 55, 125, 126, 127, 128, 129, 130, 131, 132, 133, 117, 118, 119, 120, 121, 122, 123, 124, 136, 137] (by decide +kernel) (by decide +kernel)
set_option maxRecDepth 20000 in
theorem gX7_appeal_X6_reasonHolds : GoodIn wsX7_appeal (wsV RX7 166 RX6 yX6_reasonHolds wsX6_reasonHolds) := goodIn_app (goodIn_of _ (by decide +kernel)) ggX7_appeal_X6_reasonHolds
theorem dX7_appeal_0 : decode cX7_appeal 0 = .ok (.aload_n 0, 1) := by decide +kernel
theorem dX7_appeal_1 : decode cX7_appeal 1 = .ok (.getfield 10, 3) := by decide +kernel
theorem dX7_appeal_4 : decode cX7_appeal 4 = .ok (.iload_n 1, 1) := by decide +kernel
theorem dX7_appeal_5 : decode cX7_appeal 5 = .ok (.invokevirtual 88, 3) := by decide +kernel
theorem dX7_appeal_8 : decode cX7_appeal 8 = .ok (.ifCond .ne 5, 3) := by decide +kernel
theorem dX7_appeal_11 : decode cX7_appeal 11 = .ok (.iconst (-1), 1) := by decide +kernel
theorem dX7_appeal_12 : decode cX7_appeal 12 = .ok (.ireturn, 1) := by decide +kernel
theorem dX7_appeal_13 : decode cX7_appeal 13 = .ok (.iload_n 2, 1) := by decide +kernel
theorem dX7_appeal_14 : decode cX7_appeal 14 = .ok (.iconst 0, 1) := by decide +kernel
theorem dX7_appeal_15 : decode cX7_appeal 15 = .ok (.iconst 2, 1) := by decide +kernel
theorem dX7_appeal_16 : decode cX7_appeal 16 = .ok (.invokestatic 51, 3) := by decide +kernel
theorem dX7_appeal_19 : decode cX7_appeal 19 = .ok (.ifCond .ne 6, 3) := by decide +kernel
theorem dX7_appeal_22 : decode cX7_appeal 22 = .ok (.bipush (-2), 2) := by decide +kernel
theorem dX7_appeal_24 : decode cX7_appeal 24 = .ok (.ireturn, 1) := by decide +kernel
theorem dX7_appeal_25 : decode cX7_appeal 25 = .ok (.aload_n 0, 1) := by decide +kernel
theorem dX7_appeal_26 : decode cX7_appeal 26 = .ok (.getfield 10, 3) := by decide +kernel
theorem dX7_appeal_29 : decode cX7_appeal 29 = .ok (.getfield 78, 3) := by decide +kernel
theorem dX7_appeal_32 : decode cX7_appeal 32 = .ok (.iload_n 1, 1) := by decide +kernel
theorem dX7_appeal_33 : decode cX7_appeal 33 = .ok (.aaload, 1) := by decide +kernel
theorem dX7_appeal_34 : decode cX7_appeal 34 = .ok (.astore_n 3, 1) := by decide +kernel
theorem dX7_appeal_35 : decode cX7_appeal 35 = .ok (.aload_n 3, 1) := by decide +kernel
theorem dX7_appeal_36 : decode cX7_appeal 36 = .ok (.getfield 163, 3) := by decide +kernel
theorem dX7_appeal_39 : decode cX7_appeal 39 = .ok (.iconst 2, 1) := by decide +kernel
theorem dX7_appeal_40 : decode cX7_appeal 40 = .ok (.if_icmp .lt 6, 3) := by decide +kernel
theorem dX7_appeal_43 : decode cX7_appeal 43 = .ok (.bipush (-3), 2) := by decide +kernel
theorem dX7_appeal_45 : decode cX7_appeal 45 = .ok (.ireturn, 1) := by decide +kernel
theorem dX7_appeal_46 : decode cX7_appeal 46 = .ok (.aload_n 0, 1) := by decide +kernel
theorem dX7_appeal_47 : decode cX7_appeal 47 = .ok (.getfield 26, 3) := by decide +kernel
theorem dX7_appeal_50 : decode cX7_appeal 50 = .ok (.aload_n 0, 1) := by decide +kernel
theorem dX7_appeal_51 : decode cX7_appeal 51 = .ok (.getfield 10, 3) := by decide +kernel
theorem dX7_appeal_54 : decode cX7_appeal 54 = .ok (.invokevirtual 59, 3) := by decide +kernel
theorem dX7_appeal_57 : decode cX7_appeal 57 = .ok (.aload_n 0, 1) := by decide +kernel
theorem dX7_appeal_58 : decode cX7_appeal 58 = .ok (.getfield 10, 3) := by decide +kernel
theorem dX7_appeal_61 : decode cX7_appeal 61 = .ok (.aload_n 3, 1) := by decide +kernel
theorem dX7_appeal_62 : decode cX7_appeal 62 = .ok (.iload_n 2, 1) := by decide +kernel
theorem dX7_appeal_63 : decode cX7_appeal 63 = .ok (.invokevirtual 166, 3) := by decide +kernel
theorem dX7_appeal_66 : decode cX7_appeal 66 = .ok (.istore 4, 2) := by decide +kernel
theorem dX7_appeal_68 : decode cX7_appeal 68 = .ok (.aload_n 3, 1) := by decide +kernel
theorem dX7_appeal_69 : decode cX7_appeal 69 = .ok (.dup, 1) := by decide +kernel
theorem dX7_appeal_70 : decode cX7_appeal 70 = .ok (.getfield 163, 3) := by decide +kernel
theorem dX7_appeal_73 : decode cX7_appeal 73 = .ok (.iconst 1, 1) := by decide +kernel
theorem dX7_appeal_74 : decode cX7_appeal 74 = .ok (.iadd, 1) := by decide +kernel
theorem dX7_appeal_75 : decode cX7_appeal 75 = .ok (.putfield 163, 3) := by decide +kernel
theorem dX7_appeal_78 : decode cX7_appeal 78 = .ok (.iload 4, 2) := by decide +kernel
theorem dX7_appeal_80 : decode cX7_appeal 80 = .ok (.ifCond .ne 21, 3) := by decide +kernel
theorem dX7_appeal_83 : decode cX7_appeal 83 = .ok (.aload_n 0, 1) := by decide +kernel
theorem dX7_appeal_84 : decode cX7_appeal 84 = .ok (.getfield 10, 3) := by decide +kernel
theorem dX7_appeal_87 : decode cX7_appeal 87 = .ok (.dup, 1) := by decide +kernel
theorem dX7_appeal_88 : decode cX7_appeal 88 = .ok (.getfield 170, 3) := by decide +kernel
theorem dX7_appeal_91 : decode cX7_appeal 91 = .ok (.iconst 1, 1) := by decide +kernel
theorem dX7_appeal_92 : decode cX7_appeal 92 = .ok (.iadd, 1) := by decide +kernel
theorem dX7_appeal_93 : decode cX7_appeal 93 = .ok (.putfield 170, 3) := by decide +kernel
theorem dX7_appeal_96 : decode cX7_appeal 96 = .ok (.aload_n 3, 1) := by decide +kernel
theorem dX7_appeal_97 : decode cX7_appeal 97 = .ok (.getfield 151, 3) := by decide +kernel
theorem dX7_appeal_100 : decode cX7_appeal 100 = .ok (.ireturn, 1) := by decide +kernel
theorem dX7_appeal_101 : decode cX7_appeal 101 = .ok (.aload_n 3, 1) := by decide +kernel
theorem dX7_appeal_102 : decode cX7_appeal 102 = .ok (.dup, 1) := by decide +kernel
theorem dX7_appeal_103 : decode cX7_appeal 103 = .ok (.getfield 151, 3) := by decide +kernel
theorem dX7_appeal_106 : decode cX7_appeal 106 = .ok (.iload_n 2, 1) := by decide +kernel
theorem dX7_appeal_107 : decode cX7_appeal 107 = .ok (.iconst 1, 1) := by decide +kernel
theorem dX7_appeal_108 : decode cX7_appeal 108 = .ok (.iadd, 1) := by decide +kernel
theorem dX7_appeal_109 : decode cX7_appeal 109 = .ok (.iadd, 1) := by decide +kernel
theorem dX7_appeal_110 : decode cX7_appeal 110 = .ok (.putfield 151, 3) := by decide +kernel
theorem dX7_appeal_113 : decode cX7_appeal 113 = .ok (.aload_n 3, 1) := by decide +kernel
theorem dX7_appeal_114 : decode cX7_appeal 114 = .ok (.getfield 151, 3) := by decide +kernel
theorem dX7_appeal_117 : decode cX7_appeal 117 = .ok (.bipush 100, 2) := by decide +kernel
theorem dX7_appeal_119 : decode cX7_appeal 119 = .ok (.iadd, 1) := by decide +kernel
theorem dX7_appeal_120 : decode cX7_appeal 120 = .ok (.ireturn, 1) := by decide +kernel
set_option maxRecDepth 20000 in
theorem ggX7_swap_X5_lookAt : GoodIn wsX7_swap wsX5_lookAt := goodIn_r _ [8, 9, 10, 11, 12, 13, 14, 15, 16, 17, 18, 19, 20, 21, 22, 23, 24, 25, 26, 27, 28, 29, 30, 31, 32, 33, 34, 35, 36, 37, 38, 39, 40, 41, 42, 43, 44, 45, 46, 47, 48, 49, 50, 51, 52, 53, 54, 55, 56, 120, 121, 122, 123, 124, 125, 126, 127, 128, 129, 130, 131, 132, 133, 134, 135, 136, 137, 138, 139, 140] (by decide +kernel) (by decide +kernel)
set_option maxRecDepth 20000 in
theorem gX7_swap_X5_lookAt : GoodIn wsX7_swap (wsV RX7 173 RX5 yX5_lookAt wsX5_lookAt) := goodIn_app (goodIn_of _ (by decide +kernel)) ggX7_swap_X5_lookAt
set_option maxRecDepth 20000 in
theorem ggX7_swap_X5_lowestHousehold : GoodIn wsX7_swap wsX5_lowestHousehold := goodIn_r _ [60, 10, 61, 62, 63, 7, 64, 65, 66, 67, 68, 11, 128, 129] (by decide +kernel) (by decide +kernel)
set_option maxRecDepth 20000 in
theorem gX7_swap_X5_lowestHousehold : GoodIn wsX7_swap (wsV RX7 176 RX5 yX5_lowestHousehold wsX5_lowestHousehold) := goodIn_app (goodIn_of _ (by decide +kernel)) ggX7_swap_X5_lowestHousehold
set_option maxRecDepth 20000 in
theorem ggX7_swap_X1_record : GoodIn wsX7_swap wsX1_record := goodIn_r _ [73, 74, 75, 76, 77, 78, 72, 79, 80, 81, 82, 16, 83, 48, 43, 37, 38, 84, 85, 86, 87, 88, 89, 90, 91, 92, 93, 94, 95, 96, 24, 97, 32, 31, 53, 56, 98, 99, 26, 100, 101, 141, 142, 120, 121, 122, 123, 124, 125, 126, 127, 139, 140, 130, 131, 132, 133, 134, 135, 136, 137, 138] (by decide +kernel) (by decide +kernel)
set_option maxRecDepth 20000 in
theorem gX7_swap_X1_record : GoodIn wsX7_swap (wsV RX7 59 RX1 yX1_record wsX1_record) := goodIn_app (goodIn_of _ (by decide +kernel)) ggX7_swap_X1_record
set_option maxRecDepth 20000 in
theorem ggX7_swap_X5_swapAll : GoodIn wsX7_swap wsX5_swapAll := goodIn_r _ [105, 106, 5, 6, 7, 8, 9, 10, 11, 12, 13, 14, 15, 16, 17, 18, 19, 20, 21, 22, 23, 24, 25, 26, 27, 28, 29, 30, 31, 32, 33, 34, 35, 36, 37, 38, 39, 40, 41, 42, 43, 44, 45, 46, 47, 48, 49, 50, 51, 52, 53, 54, 55, 56, 107, 58, 59, 60, 61, 62, 63, 64, 65, 66, 67, 68, 108, 109, 110, 111, 112, 120, 121, 122, 123, 124, 125, 126, 127, 128, 129, 130, 131, 132, 133, 134, 135, 136, 137, 138, 139, 140] (by decide +kernel) (by decide +kernel)
set_option maxRecDepth 20000 in
theorem gX7_swap_X5_swapAll : GoodIn wsX7_swap (wsV RX7 179 RX5 yX5_swapAll wsX5_swapAll) := goodIn_app (goodIn_of _ (by decide +kernel)) ggX7_swap_X5_swapAll
theorem dX7_swap_0 : decode cX7_swap 0 = .ok (.aload_n 0, 1) := by decide +kernel
theorem dX7_swap_1 : decode cX7_swap 1 = .ok (.getfield 40, 3) := by decide +kernel
theorem dX7_swap_4 : decode cX7_swap 4 = .ok (.aload_n 0, 1) := by decide +kernel
theorem dX7_swap_5 : decode cX7_swap 5 = .ok (.getfield 10, 3) := by decide +kernel
theorem dX7_swap_8 : decode cX7_swap 8 = .ok (.invokevirtual 173, 3) := by decide +kernel
theorem dX7_swap_11 : decode cX7_swap 11 = .ok (.aload_n 0, 1) := by decide +kernel
theorem dX7_swap_12 : decode cX7_swap 12 = .ok (.getfield 40, 3) := by decide +kernel
theorem dX7_swap_15 : decode cX7_swap 15 = .ok (.invokevirtual 176, 3) := by decide +kernel
theorem dX7_swap_18 : decode cX7_swap 18 = .ok (.bipush (-5), 2) := by decide +kernel
theorem dX7_swap_20 : decode cX7_swap 20 = .ok (.if_icmp .ne 6, 3) := by decide +kernel
theorem dX7_swap_23 : decode cX7_swap 23 = .ok (.bipush (-5), 2) := by decide +kernel
theorem dX7_swap_25 : decode cX7_swap 25 = .ok (.ireturn, 1) := by decide +kernel
theorem dX7_swap_26 : decode cX7_swap 26 = .ok (.aload_n 0, 1) := by decide +kernel
theorem dX7_swap_27 : decode cX7_swap 27 = .ok (.getfield 26, 3) := by decide +kernel
theorem dX7_swap_30 : decode cX7_swap 30 = .ok (.aload_n 0, 1) := by decide +kernel
theorem dX7_swap_31 : decode cX7_swap 31 = .ok (.getfield 10, 3) := by decide +kernel
theorem dX7_swap_34 : decode cX7_swap 34 = .ok (.invokevirtual 59, 3) := by decide +kernel
theorem dX7_swap_37 : decode cX7_swap 37 = .ok (.aload_n 0, 1) := by decide +kernel
theorem dX7_swap_38 : decode cX7_swap 38 = .ok (.getfield 40, 3) := by decide +kernel
theorem dX7_swap_41 : decode cX7_swap 41 = .ok (.aload_n 0, 1) := by decide +kernel
theorem dX7_swap_42 : decode cX7_swap 42 = .ok (.getfield 10, 3) := by decide +kernel
theorem dX7_swap_45 : decode cX7_swap 45 = .ok (.invokevirtual 179, 3) := by decide +kernel
theorem dX7_swap_48 : decode cX7_swap 48 = .ok (.ireturn, 1) := by decide +kernel
set_option maxRecDepth 20000 in
theorem ggX7_moveOut_X6_hasHousehold : GoodIn wsX7_moveOut wsX6_hasHousehold := goodIn_r _ [9, 10, 60, 61, 62, 63, 64, 65, 66, 67] (by decide +kernel) (by decide +kernel)
set_option maxRecDepth 20000 in
theorem gX7_moveOut_X6_hasHousehold : GoodIn wsX7_moveOut (wsV RX7 88 RX6 yX6_hasHousehold wsX6_hasHousehold) := goodIn_app (goodIn_of _ (by decide +kernel)) ggX7_moveOut_X6_hasHousehold
set_option maxRecDepth 20000 in
theorem ggX7_moveOut_X1_record : GoodIn wsX7_moveOut wsX1_record := goodIn_r _ [15, 16, 17, 18, 19, 20, 14, 21, 22, 23, 24, 8, 25, 26, 27, 10, 28, 29, 30, 31, 32, 33, 34, 35, 36, 37, 38, 39, 40, 41, 42, 43, 44, 45, 46, 47, 48, 49, 50, 51, 52, 77, 78, 60, 61, 62, 63, 64, 65, 66, 67, 79, 80, 68, 69, 70, 71, 72, 73, 74, 75, 76] (by decide +kernel) (by decide +kernel)
set_option maxRecDepth 20000 in
theorem gX7_moveOut_X1_record : GoodIn wsX7_moveOut (wsV RX7 59 RX1 yX1_record wsX1_record) := goodIn_app (goodIn_of _ (by decide +kernel)) ggX7_moveOut_X1_record
theorem dX7_moveOut_0 : decode cX7_moveOut 0 = .ok (.aload_n 0, 1) := by decide +kernel
theorem dX7_moveOut_1 : decode cX7_moveOut 1 = .ok (.getfield 10, 3) := by decide +kernel
theorem dX7_moveOut_4 : decode cX7_moveOut 4 = .ok (.iload_n 1, 1) := by decide +kernel
theorem dX7_moveOut_5 : decode cX7_moveOut 5 = .ok (.invokevirtual 88, 3) := by decide +kernel
theorem dX7_moveOut_8 : decode cX7_moveOut 8 = .ok (.ifCond .ne 5, 3) := by decide +kernel
theorem dX7_moveOut_11 : decode cX7_moveOut 11 = .ok (.iconst (-1), 1) := by decide +kernel
theorem dX7_moveOut_12 : decode cX7_moveOut 12 = .ok (.ireturn, 1) := by decide +kernel
theorem dX7_moveOut_13 : decode cX7_moveOut 13 = .ok (.aload_n 0, 1) := by decide +kernel
theorem dX7_moveOut_14 : decode cX7_moveOut 14 = .ok (.getfield 10, 3) := by decide +kernel
theorem dX7_moveOut_17 : decode cX7_moveOut 17 = .ok (.getfield 78, 3) := by decide +kernel
theorem dX7_moveOut_20 : decode cX7_moveOut 20 = .ok (.iload_n 1, 1) := by decide +kernel
theorem dX7_moveOut_21 : decode cX7_moveOut 21 = .ok (.aaload, 1) := by decide +kernel
theorem dX7_moveOut_22 : decode cX7_moveOut 22 = .ok (.astore_n 2, 1) := by decide +kernel
theorem dX7_moveOut_23 : decode cX7_moveOut 23 = .ok (.aload_n 2, 1) := by decide +kernel
theorem dX7_moveOut_24 : decode cX7_moveOut 24 = .ok (.getfield 148, 3) := by decide +kernel
theorem dX7_moveOut_27 : decode cX7_moveOut 27 = .ok (.istore_n 3, 1) := by decide +kernel
theorem dX7_moveOut_28 : decode cX7_moveOut 28 = .ok (.iload_n 3, 1) := by decide +kernel
theorem dX7_moveOut_29 : decode cX7_moveOut 29 = .ok (.bipush (-5), 2) := by decide +kernel
theorem dX7_moveOut_31 : decode cX7_moveOut 31 = .ok (.if_icmp .ne 6, 3) := by decide +kernel
theorem dX7_moveOut_34 : decode cX7_moveOut 34 = .ok (.bipush (-5), 2) := by decide +kernel
theorem dX7_moveOut_36 : decode cX7_moveOut 36 = .ok (.ireturn, 1) := by decide +kernel
theorem dX7_moveOut_37 : decode cX7_moveOut 37 = .ok (.aload_n 0, 1) := by decide +kernel
theorem dX7_moveOut_38 : decode cX7_moveOut 38 = .ok (.getfield 26, 3) := by decide +kernel
theorem dX7_moveOut_41 : decode cX7_moveOut 41 = .ok (.aload_n 0, 1) := by decide +kernel
theorem dX7_moveOut_42 : decode cX7_moveOut 42 = .ok (.getfield 10, 3) := by decide +kernel
theorem dX7_moveOut_45 : decode cX7_moveOut 45 = .ok (.invokevirtual 59, 3) := by decide +kernel
theorem dX7_moveOut_48 : decode cX7_moveOut 48 = .ok (.aload_n 2, 1) := by decide +kernel
theorem dX7_moveOut_49 : decode cX7_moveOut 49 = .ok (.bipush (-5), 2) := by decide +kernel
theorem dX7_moveOut_51 : decode cX7_moveOut 51 = .ok (.putfield 148, 3) := by decide +kernel
theorem dX7_moveOut_54 : decode cX7_moveOut 54 = .ok (.iload_n 3, 1) := by decide +kernel
theorem dX7_moveOut_55 : decode cX7_moveOut 55 = .ok (.ireturn, 1) := by decide +kernel
set_option maxRecDepth 20000 in
theorem ggX7_type_X3_append : GoodIn wsX7_type wsX3_append := goodIn_r _ [7, 8, 9, 17, 18, 19, 20, 21, 22, 23] (by decide +kernel) (by decide +kernel)
set_option maxRecDepth 20000 in
theorem gX7_type_X3_append : GoodIn wsX7_type (wsV RX7 183 RX3 yX3_append wsX3_append) := goodIn_app (goodIn_of _ (by decide +kernel)) ggX7_type_X3_append
theorem dX7_type_0 : decode cX7_type 0 = .ok (.aload_n 0, 1) := by decide +kernel
theorem dX7_type_1 : decode cX7_type 1 = .ok (.getfield 33, 3) := by decide +kernel
theorem dX7_type_4 : decode cX7_type 4 = .ok (.iload_n 1, 1) := by decide +kernel
theorem dX7_type_5 : decode cX7_type 5 = .ok (.invokevirtual 183, 3) := by decide +kernel
theorem dX7_type_8 : decode cX7_type 8 = .ok (.ifCond .eq 13, 3) := by decide +kernel
theorem dX7_type_11 : decode cX7_type 11 = .ok (.aload_n 0, 1) := by decide +kernel
theorem dX7_type_12 : decode cX7_type 12 = .ok (.getfield 33, 3) := by decide +kernel
theorem dX7_type_15 : decode cX7_type 15 = .ok (.getfield 187, 3) := by decide +kernel
theorem dX7_type_18 : decode cX7_type 18 = .ok (.goto 5, 3) := by decide +kernel
theorem dX7_type_21 : decode cX7_type 21 = .ok (.bipush (-3), 2) := by decide +kernel
theorem dX7_type_23 : decode cX7_type 23 = .ok (.ireturn, 1) := by decide +kernel
theorem dX7_clearText_0 : decode cX7_clearText 0 = .ok (.aload_n 0, 1) := by decide +kernel
theorem dX7_clearText_1 : decode cX7_clearText 1 = .ok (.getfield 33, 3) := by decide +kernel
theorem dX7_clearText_4 : decode cX7_clearText 4 = .ok (.getfield 187, 3) := by decide +kernel
theorem dX7_clearText_7 : decode cX7_clearText 7 = .ok (.istore_n 1, 1) := by decide +kernel
theorem dX7_clearText_8 : decode cX7_clearText 8 = .ok (.aload_n 0, 1) := by decide +kernel
theorem dX7_clearText_9 : decode cX7_clearText 9 = .ok (.getfield 33, 3) := by decide +kernel
theorem dX7_clearText_12 : decode cX7_clearText 12 = .ok (.iconst 0, 1) := by decide +kernel
theorem dX7_clearText_13 : decode cX7_clearText 13 = .ok (.putfield 187, 3) := by decide +kernel
theorem dX7_clearText_16 : decode cX7_clearText 16 = .ok (.iload_n 1, 1) := by decide +kernel
theorem dX7_clearText_17 : decode cX7_clearText 17 = .ok (.ireturn, 1) := by decide +kernel
set_option maxRecDepth 20000 in
theorem ggX7_undo_X1_takeBack : GoodIn wsX7_undo wsX1_takeBack := goodIn_r _ [8, 9, 10, 11, 12, 13, 14, 15, 16, 17, 18, 19, 20, 21, 22, 23, 24, 25, 26, 27, 28, 29, 30, 31, 32, 33, 34, 35, 36, 37, 38, 39, 40, 41, 42, 43, 51, 52, 53, 54, 55, 56, 57, 58, 59, 60, 61, 62, 63, 64, 65, 66, 67, 68, 69, 70, 71] (by decide +kernel) (by decide +kernel)
set_option maxRecDepth 20000 in
theorem gX7_undo_X1_takeBack : GoodIn wsX7_undo (wsV RX7 193 RX1 yX1_takeBack wsX1_takeBack) := goodIn_app (goodIn_of _ (by decide +kernel)) ggX7_undo_X1_takeBack
theorem dX7_undo_0 : decode cX7_undo 0 = .ok (.aload_n 0, 1) := by decide +kernel
theorem dX7_undo_1 : decode cX7_undo 1 = .ok (.getfield 26, 3) := by decide +kernel
theorem dX7_undo_4 : decode cX7_undo 4 = .ok (.getfield 190, 3) := by decide +kernel
theorem dX7_undo_7 : decode cX7_undo 7 = .ok (.ifCond .ne 6, 3) := by decide +kernel
theorem dX7_undo_10 : decode cX7_undo 10 = .ok (.bipush (-5), 2) := by decide +kernel
theorem dX7_undo_12 : decode cX7_undo 12 = .ok (.ireturn, 1) := by decide +kernel
theorem dX7_undo_13 : decode cX7_undo 13 = .ok (.aload_n 0, 1) := by decide +kernel
theorem dX7_undo_14 : decode cX7_undo 14 = .ok (.getfield 26, 3) := by decide +kernel
theorem dX7_undo_17 : decode cX7_undo 17 = .ok (.aload_n 0, 1) := by decide +kernel
theorem dX7_undo_18 : decode cX7_undo 18 = .ok (.getfield 10, 3) := by decide +kernel
theorem dX7_undo_21 : decode cX7_undo 21 = .ok (.invokevirtual 193, 3) := by decide +kernel
theorem dX7_undo_24 : decode cX7_undo 24 = .ok (.aload_n 0, 1) := by decide +kernel
theorem dX7_undo_25 : decode cX7_undo 25 = .ok (.getfield 26, 3) := by decide +kernel
theorem dX7_undo_28 : decode cX7_undo 28 = .ok (.getfield 190, 3) := by decide +kernel
theorem dX7_undo_31 : decode cX7_undo 31 = .ok (.ireturn, 1) := by decide +kernel
set_option maxRecDepth 20000 in
theorem ggX7_keep_X6_copyFrom : GoodIn wsX7_keep wsX6_copyFrom := goodIn_r _ [8, 9, 10, 11, 12, 13, 14, 15, 16, 17, 18, 19, 20, 21, 22, 23, 24, 25, 26, 27, 28, 29, 30, 31, 32, 33, 34, 35, 36, 49, 50, 51, 52, 53, 54, 55, 56, 57, 58, 59, 60, 61, 62, 63, 64, 65, 66, 67] (by decide +kernel) (by decide +kernel)
set_option maxRecDepth 20000 in
theorem gX7_keep_X6_copyFrom : GoodIn wsX7_keep (wsV RX7 196 RX6 yX6_copyFrom wsX6_copyFrom) := goodIn_app (goodIn_of _ (by decide +kernel)) ggX7_keep_X6_copyFrom
set_option maxRecDepth 20000 in
theorem ggX7_keep_X6_countHeld : GoodIn wsX7_keep wsX6_countHeld := goodIn_r _ [40, 11, 12, 41, 49, 50, 51, 52, 53, 54, 55, 56, 59, 60, 61, 62, 63, 64, 65, 66, 67] (by decide +kernel) (by decide +kernel)
set_option maxRecDepth 20000 in
theorem gX7_keep_X6_countHeld : GoodIn wsX7_keep (wsV RX7 199 RX6 yX6_countHeld wsX6_countHeld) := goodIn_app (goodIn_of _ (by decide +kernel)) ggX7_keep_X6_countHeld
theorem dX7_keep_0 : decode cX7_keep 0 = .ok (.aload_n 0, 1) := by decide +kernel
theorem dX7_keep_1 : decode cX7_keep 1 = .ok (.getfield 16, 3) := by decide +kernel
theorem dX7_keep_4 : decode cX7_keep 4 = .ok (.aload_n 0, 1) := by decide +kernel
theorem dX7_keep_5 : decode cX7_keep 5 = .ok (.getfield 10, 3) := by decide +kernel
theorem dX7_keep_8 : decode cX7_keep 8 = .ok (.invokevirtual 196, 3) := by decide +kernel
theorem dX7_keep_11 : decode cX7_keep 11 = .ok (.aload_n 0, 1) := by decide +kernel
theorem dX7_keep_12 : decode cX7_keep 12 = .ok (.iconst 1, 1) := by decide +kernel
theorem dX7_keep_13 : decode cX7_keep 13 = .ok (.putfield 19, 3) := by decide +kernel
theorem dX7_keep_16 : decode cX7_keep 16 = .ok (.aload_n 0, 1) := by decide +kernel
theorem dX7_keep_17 : decode cX7_keep 17 = .ok (.getfield 10, 3) := by decide +kernel
theorem dX7_keep_20 : decode cX7_keep 20 = .ok (.invokevirtual 199, 3) := by decide +kernel
theorem dX7_keep_23 : decode cX7_keep 23 = .ok (.ireturn, 1) := by decide +kernel
set_option maxRecDepth 20000 in
theorem ggX7_restore_X1_record : GoodIn wsX7_restore wsX1_record := goodIn_r _ [9, 10, 11, 12, 13, 14, 8, 15, 16, 17, 18, 19, 20, 21, 22, 23, 24, 25, 26, 27, 28, 29, 30, 31, 32, 33, 34, 35, 36, 37, 38, 39, 40, 41, 42, 43, 44, 45, 46, 47, 48, 62, 63, 64, 65, 66, 67, 68, 69, 70, 71, 72, 73, 74, 75, 76, 77, 78, 79, 80, 81, 82] (by decide +kernel) (by decide +kernel)
set_option maxRecDepth 20000 in
theorem gX7_restore_X1_record : GoodIn wsX7_restore (wsV RX7 59 RX1 yX1_record wsX1_record) := goodIn_app (goodIn_of _ (by decide +kernel)) ggX7_restore_X1_record
set_option maxRecDepth 20000 in
theorem ggX7_restore_X6_copyFrom : GoodIn wsX7_restore wsX6_copyFrom := goodIn_r _ [20, 21, 22, 23, 24, 25, 26, 27, 28, 29, 30, 31, 32, 33, 34, 35, 36, 37, 38, 39, 40, 41, 42, 43, 44, 45, 46, 47, 48, 64, 65, 66, 67, 68, 69, 70, 71, 72, 73, 74, 75, 76, 77, 78, 79, 80, 81, 82] (by decide +kernel) (by decide +kernel)
set_option maxRecDepth 20000 in
theorem gX7_restore_X6_copyFrom : GoodIn wsX7_restore (wsV RX7 196 RX6 yX6_copyFrom wsX6_copyFrom) := goodIn_app (goodIn_of _ (by decide +kernel)) ggX7_restore_X6_copyFrom
set_option maxRecDepth 20000 in
theorem ggX7_restore_X6_countHeld : GoodIn wsX7_restore wsX6_countHeld := goodIn_r _ [53, 23, 24, 54, 64, 65, 66, 67, 68, 69, 70, 71, 74, 75, 76, 77, 78, 79, 80, 81, 82] (by decide +kernel) (by decide +kernel)
set_option maxRecDepth 20000 in
theorem gX7_restore_X6_countHeld : GoodIn wsX7_restore (wsV RX7 199 RX6 yX6_countHeld wsX6_countHeld) := goodIn_app (goodIn_of _ (by decide +kernel)) ggX7_restore_X6_countHeld
theorem dX7_restore_0 : decode cX7_restore 0 = .ok (.aload_n 0, 1) := by decide +kernel
theorem dX7_restore_1 : decode cX7_restore 1 = .ok (.getfield 19, 3) := by decide +kernel
theorem dX7_restore_4 : decode cX7_restore 4 = .ok (.ifCond .ne 6, 3) := by decide +kernel
theorem dX7_restore_7 : decode cX7_restore 7 = .ok (.bipush (-5), 2) := by decide +kernel
theorem dX7_restore_9 : decode cX7_restore 9 = .ok (.ireturn, 1) := by decide +kernel
theorem dX7_restore_10 : decode cX7_restore 10 = .ok (.aload_n 0, 1) := by decide +kernel
theorem dX7_restore_11 : decode cX7_restore 11 = .ok (.getfield 26, 3) := by decide +kernel
theorem dX7_restore_14 : decode cX7_restore 14 = .ok (.aload_n 0, 1) := by decide +kernel
theorem dX7_restore_15 : decode cX7_restore 15 = .ok (.getfield 10, 3) := by decide +kernel
theorem dX7_restore_18 : decode cX7_restore 18 = .ok (.invokevirtual 59, 3) := by decide +kernel
theorem dX7_restore_21 : decode cX7_restore 21 = .ok (.aload_n 0, 1) := by decide +kernel
theorem dX7_restore_22 : decode cX7_restore 22 = .ok (.getfield 10, 3) := by decide +kernel
theorem dX7_restore_25 : decode cX7_restore 25 = .ok (.aload_n 0, 1) := by decide +kernel
theorem dX7_restore_26 : decode cX7_restore 26 = .ok (.getfield 16, 3) := by decide +kernel
theorem dX7_restore_29 : decode cX7_restore 29 = .ok (.invokevirtual 196, 3) := by decide +kernel
theorem dX7_restore_32 : decode cX7_restore 32 = .ok (.aload_n 0, 1) := by decide +kernel
theorem dX7_restore_33 : decode cX7_restore 33 = .ok (.getfield 10, 3) := by decide +kernel
theorem dX7_restore_36 : decode cX7_restore 36 = .ok (.invokevirtual 199, 3) := by decide +kernel
theorem dX7_restore_39 : decode cX7_restore 39 = .ok (.ireturn, 1) := by decide +kernel
set_option maxRecDepth 20000 in
theorem ggX7_flat_X6_hasFlat : GoodIn wsX7_flat wsX6_hasFlat := goodIn_r _ [9, 10, 54, 55, 56, 57, 58, 59, 60, 61] (by decide +kernel) (by decide +kernel)
set_option maxRecDepth 20000 in
theorem gX7_flat_X6_hasFlat : GoodIn wsX7_flat (wsV RX7 98 RX6 yX6_hasFlat wsX6_hasFlat) := goodIn_app (goodIn_of _ (by decide +kernel)) ggX7_flat_X6_hasFlat
set_option maxRecDepth 20000 in
theorem ggX7_flat_X6_holderOf : GoodIn wsX7_flat wsX6_holderOf := goodIn_r _ [14, 15, 16, 17, 54, 55, 56, 57, 58, 59, 60, 61, 64, 65, 66, 67, 68, 69, 70, 71, 72] (by decide +kernel) (by decide +kernel)
set_option maxRecDepth 20000 in
theorem gX7_flat_X6_holderOf : GoodIn wsX7_flat (wsV RX7 202 RX6 yX6_holderOf wsX6_holderOf) := goodIn_app (goodIn_of _ (by decide +kernel)) ggX7_flat_X6_holderOf
set_option maxRecDepth 20000 in
theorem ggX7_flat_X6_wishersOf : GoodIn wsX7_flat wsX6_wishersOf := goodIn_r _ [21, 15, 16, 22, 23, 24, 25, 26, 27, 28, 54, 55, 56, 57, 58, 59, 60, 61, 64, 65, 66, 67, 68, 69, 70, 71, 72] (by decide +kernel) (by decide +kernel)
set_option maxRecDepth 20000 in
theorem gX7_flat_X6_wishersOf : GoodIn wsX7_flat (wsV RX7 205 RX6 yX6_wishersOf wsX6_wishersOf) := goodIn_app (goodIn_of _ (by decide +kernel)) ggX7_flat_X6_wishersOf
set_option maxRecDepth 20000 in
theorem ggX7_flat_X6_eligibleFor : GoodIn wsX7_flat wsX6_eligibleFor := goodIn_r _ [32, 15, 16, 33, 34, 35, 8, 36, 37, 38, 6, 7, 9, 10, 39, 40, 41, 25, 42, 43, 44, 45, 46, 54, 55, 56, 57, 58, 59, 60, 61, 64, 65, 66, 67, 68, 69, 70, 71, 72, 62, 63] (by decide +kernel) (by decide +kernel)
set_option maxRecDepth 20000 in
theorem gX7_flat_X6_eligibleFor : GoodIn wsX7_flat (wsV RX7 208 RX6 yX6_eligibleFor wsX6_eligibleFor) := goodIn_app (goodIn_of _ (by decide +kernel)) ggX7_flat_X6_eligibleFor
theorem dX7_flat_0 : decode cX7_flat 0 = .ok (.aload_n 0, 1) := by decide +kernel
theorem dX7_flat_1 : decode cX7_flat 1 = .ok (.getfield 10, 3) := by decide +kernel
theorem dX7_flat_4 : decode cX7_flat 4 = .ok (.iload_n 1, 1) := by decide +kernel
theorem dX7_flat_5 : decode cX7_flat 5 = .ok (.invokevirtual 98, 3) := by decide +kernel
theorem dX7_flat_8 : decode cX7_flat 8 = .ok (.ifCond .ne 5, 3) := by decide +kernel
theorem dX7_flat_11 : decode cX7_flat 11 = .ok (.iconst (-1), 1) := by decide +kernel
theorem dX7_flat_12 : decode cX7_flat 12 = .ok (.ireturn, 1) := by decide +kernel
theorem dX7_flat_13 : decode cX7_flat 13 = .ok (.iload_n 2, 1) := by decide +kernel
theorem dX7_flat_14 : decode cX7_flat 14 = .ok (.tableswitch 87 0 4 #[34, 47, 60, 69, 78], 34) := by decide +kernel
theorem dX7_flat_48 : decode cX7_flat 48 = .ok (.aload_n 0, 1) := by decide +kernel
theorem dX7_flat_49 : decode cX7_flat 49 = .ok (.getfield 10, 3) := by decide +kernel
theorem dX7_flat_52 : decode cX7_flat 52 = .ok (.getfield 63, 3) := by decide +kernel
theorem dX7_flat_55 : decode cX7_flat 55 = .ok (.iload_n 1, 1) := by decide +kernel
theorem dX7_flat_56 : decode cX7_flat 56 = .ok (.aaload, 1) := by decide +kernel
theorem dX7_flat_57 : decode cX7_flat 57 = .ok (.getfield 67, 3) := by decide +kernel
theorem dX7_flat_60 : decode cX7_flat 60 = .ok (.ireturn, 1) := by decide +kernel
theorem dX7_flat_61 : decode cX7_flat 61 = .ok (.aload_n 0, 1) := by decide +kernel
theorem dX7_flat_62 : decode cX7_flat 62 = .ok (.getfield 10, 3) := by decide +kernel
theorem dX7_flat_65 : decode cX7_flat 65 = .ok (.getfield 63, 3) := by decide +kernel
theorem dX7_flat_68 : decode cX7_flat 68 = .ok (.iload_n 1, 1) := by decide +kernel
theorem dX7_flat_69 : decode cX7_flat 69 = .ok (.aaload, 1) := by decide +kernel
theorem dX7_flat_70 : decode cX7_flat 70 = .ok (.getfield 72, 3) := by decide +kernel
theorem dX7_flat_73 : decode cX7_flat 73 = .ok (.ireturn, 1) := by decide +kernel
theorem dX7_flat_74 : decode cX7_flat 74 = .ok (.aload_n 0, 1) := by decide +kernel
theorem dX7_flat_75 : decode cX7_flat 75 = .ok (.getfield 10, 3) := by decide +kernel
theorem dX7_flat_78 : decode cX7_flat 78 = .ok (.iload_n 1, 1) := by decide +kernel
theorem dX7_flat_79 : decode cX7_flat 79 = .ok (.invokevirtual 202, 3) := by decide +kernel
theorem dX7_flat_82 : decode cX7_flat 82 = .ok (.ireturn, 1) := by decide +kernel
theorem dX7_flat_83 : decode cX7_flat 83 = .ok (.aload_n 0, 1) := by decide +kernel
theorem dX7_flat_84 : decode cX7_flat 84 = .ok (.getfield 10, 3) := by decide +kernel
theorem dX7_flat_87 : decode cX7_flat 87 = .ok (.iload_n 1, 1) := by decide +kernel
theorem dX7_flat_88 : decode cX7_flat 88 = .ok (.invokevirtual 205, 3) := by decide +kernel
theorem dX7_flat_91 : decode cX7_flat 91 = .ok (.ireturn, 1) := by decide +kernel
theorem dX7_flat_92 : decode cX7_flat 92 = .ok (.aload_n 0, 1) := by decide +kernel
theorem dX7_flat_93 : decode cX7_flat 93 = .ok (.getfield 10, 3) := by decide +kernel
theorem dX7_flat_96 : decode cX7_flat 96 = .ok (.iload_n 1, 1) := by decide +kernel
theorem dX7_flat_97 : decode cX7_flat 97 = .ok (.invokevirtual 208, 3) := by decide +kernel
theorem dX7_flat_100 : decode cX7_flat 100 = .ok (.ireturn, 1) := by decide +kernel
theorem dX7_flat_101 : decode cX7_flat 101 = .ok (.bipush (-2), 2) := by decide +kernel
theorem dX7_flat_103 : decode cX7_flat 103 = .ok (.ireturn, 1) := by decide +kernel
set_option maxRecDepth 20000 in
theorem ggX7_household_X6_hasHousehold : GoodIn wsX7_household wsX6_hasHousehold := goodIn_r _ [15, 16, 77, 78, 79, 80, 81, 82, 83, 84] (by decide +kernel) (by decide +kernel)
set_option maxRecDepth 20000 in
theorem gX7_household_X6_hasHousehold : GoodIn wsX7_household (wsV RX7 88 RX6 yX6_hasHousehold wsX6_hasHousehold) := goodIn_app (goodIn_of _ (by decide +kernel)) ggX7_household_X6_hasHousehold
set_option maxRecDepth 20000 in
theorem ggX7_household_X6_placeInOrder : GoodIn wsX7_household wsX6_placeInOrder := goodIn_r _ [20, 21, 16, 22, 23, 24, 25, 26, 27, 28, 29, 85, 86, 87, 88, 89, 90, 91, 92, 93, 77, 78, 79, 80, 81, 82, 83, 84] (by decide +kernel) (by decide +kernel)
set_option maxRecDepth 20000 in
theorem gX7_household_X6_placeInOrder : GoodIn wsX7_household (wsV RX7 211 RX6 yX6_placeInOrder wsX6_placeInOrder) := goodIn_app (goodIn_of _ (by decide +kernel)) ggX7_household_X6_placeInOrder
set_option maxRecDepth 20000 in
theorem ggX7_household_X6_pointsTo : GoodIn wsX7_household wsX6_pointsTo := goodIn_r _ [33, 34, 35, 36, 37, 38, 39, 26, 40, 41, 42, 43, 44, 45, 46, 47, 48, 49, 50, 14, 51, 16, 22, 52, 53, 54, 55, 56, 57, 58, 59, 60, 61, 62, 63, 64, 65, 66, 67, 68, 69, 85, 86, 87, 88, 89, 90, 91, 92, 93, 77, 78, 79, 80, 81, 82, 83, 84, 94, 95] (by decide +kernel) (by decide +kernel)
set_option maxRecDepth 20000 in
theorem gX7_household_X6_pointsTo : GoodIn wsX7_household (wsV RX7 215 RX6 yX6_pointsTo wsX6_pointsTo) := goodIn_app (goodIn_of _ (by decide +kernel)) ggX7_household_X6_pointsTo
theorem dX7_household_0 : decode cX7_household 0 = .ok (.aload_n 0, 1) := by decide +kernel
theorem dX7_household_1 : decode cX7_household 1 = .ok (.getfield 10, 3) := by decide +kernel
theorem dX7_household_4 : decode cX7_household 4 = .ok (.iload_n 1, 1) := by decide +kernel
theorem dX7_household_5 : decode cX7_household 5 = .ok (.invokevirtual 88, 3) := by decide +kernel
theorem dX7_household_8 : decode cX7_household 8 = .ok (.ifCond .ne 5, 3) := by decide +kernel
theorem dX7_household_11 : decode cX7_household 11 = .ok (.iconst (-1), 1) := by decide +kernel
theorem dX7_household_12 : decode cX7_household 12 = .ok (.ireturn, 1) := by decide +kernel
theorem dX7_household_13 : decode cX7_household 13 = .ok (.aload_n 0, 1) := by decide +kernel
theorem dX7_household_14 : decode cX7_household 14 = .ok (.getfield 10, 3) := by decide +kernel
theorem dX7_household_17 : decode cX7_household 17 = .ok (.getfield 78, 3) := by decide +kernel
theorem dX7_household_20 : decode cX7_household 20 = .ok (.iload_n 1, 1) := by decide +kernel
theorem dX7_household_21 : decode cX7_household 21 = .ok (.aaload, 1) := by decide +kernel
theorem dX7_household_22 : decode cX7_household 22 = .ok (.astore_n 3, 1) := by decide +kernel
theorem dX7_household_23 : decode cX7_household 23 = .ok (.iload_n 2, 1) := by decide +kernel
theorem dX7_household_24 : decode cX7_household 24 = .ok (.tableswitch 114 0 9 #[56, 61, 66, 71, 76, 81, 86, 91, 100, 109], 56) := by decide +kernel
theorem dX7_household_80 : decode cX7_household 80 = .ok (.aload_n 3, 1) := by decide +kernel
theorem dX7_household_81 : decode cX7_household 81 = .ok (.getfield 95, 3) := by decide +kernel
theorem dX7_household_84 : decode cX7_household 84 = .ok (.ireturn, 1) := by decide +kernel
theorem dX7_household_85 : decode cX7_household 85 = .ok (.aload_n 3, 1) := by decide +kernel
theorem dX7_household_86 : decode cX7_household 86 = .ok (.getfield 92, 3) := by decide +kernel
theorem dX7_household_89 : decode cX7_household 89 = .ok (.ireturn, 1) := by decide +kernel
theorem dX7_household_90 : decode cX7_household 90 = .ok (.aload_n 3, 1) := by decide +kernel
theorem dX7_household_91 : decode cX7_household 91 = .ok (.getfield 136, 3) := by decide +kernel
theorem dX7_household_94 : decode cX7_household 94 = .ok (.ireturn, 1) := by decide +kernel
theorem dX7_household_95 : decode cX7_household 95 = .ok (.aload_n 3, 1) := by decide +kernel
theorem dX7_household_96 : decode cX7_household 96 = .ok (.getfield 151, 3) := by decide +kernel
theorem dX7_household_99 : decode cX7_household 99 = .ok (.ireturn, 1) := by decide +kernel
theorem dX7_household_100 : decode cX7_household 100 = .ok (.aload_n 3, 1) := by decide +kernel
theorem dX7_household_101 : decode cX7_household 101 = .ok (.getfield 148, 3) := by decide +kernel
theorem dX7_household_104 : decode cX7_household 104 = .ok (.ireturn, 1) := by decide +kernel
theorem dX7_household_105 : decode cX7_household 105 = .ok (.aload_n 3, 1) := by decide +kernel
theorem dX7_household_106 : decode cX7_household 106 = .ok (.getfield 101, 3) := by decide +kernel
theorem dX7_household_109 : decode cX7_household 109 = .ok (.ireturn, 1) := by decide +kernel
theorem dX7_household_110 : decode cX7_household 110 = .ok (.aload_n 3, 1) := by decide +kernel
theorem dX7_household_111 : decode cX7_household 111 = .ok (.getfield 163, 3) := by decide +kernel
theorem dX7_household_114 : decode cX7_household 114 = .ok (.ireturn, 1) := by decide +kernel
theorem dX7_household_115 : decode cX7_household 115 = .ok (.aload_n 0, 1) := by decide +kernel
theorem dX7_household_116 : decode cX7_household 116 = .ok (.getfield 10, 3) := by decide +kernel
theorem dX7_household_119 : decode cX7_household 119 = .ok (.aload_n 3, 1) := by decide +kernel
theorem dX7_household_120 : decode cX7_household 120 = .ok (.invokevirtual 211, 3) := by decide +kernel
theorem dX7_household_123 : decode cX7_household 123 = .ok (.ireturn, 1) := by decide +kernel
theorem dX7_household_124 : decode cX7_household 124 = .ok (.aload_n 0, 1) := by decide +kernel
theorem dX7_household_125 : decode cX7_household 125 = .ok (.getfield 10, 3) := by decide +kernel
theorem dX7_household_128 : decode cX7_household 128 = .ok (.aload_n 3, 1) := by decide +kernel
theorem dX7_household_129 : decode cX7_household 129 = .ok (.invokevirtual 215, 3) := by decide +kernel
theorem dX7_household_132 : decode cX7_household 132 = .ok (.ireturn, 1) := by decide +kernel
theorem dX7_household_133 : decode cX7_household 133 = .ok (.aload_n 3, 1) := by decide +kernel
theorem dX7_household_134 : decode cX7_household 134 = .ok (.getfield 218, 3) := by decide +kernel
theorem dX7_household_137 : decode cX7_household 137 = .ok (.ireturn, 1) := by decide +kernel
theorem dX7_household_138 : decode cX7_household 138 = .ok (.bipush (-2), 2) := by decide +kernel
theorem dX7_household_140 : decode cX7_household 140 = .ok (.ireturn, 1) := by decide +kernel
set_option maxRecDepth 20000 in
theorem ggX7_wished_X6_hasHousehold : GoodIn wsX7_wished wsX6_hasHousehold := goodIn_r _ [9, 10, 18, 19, 20, 21, 22, 23, 24, 25] (by decide +kernel) (by decide +kernel)
set_option maxRecDepth 20000 in
theorem gX7_wished_X6_hasHousehold : GoodIn wsX7_wished (wsV RX7 88 RX6 yX6_hasHousehold wsX6_hasHousehold) := goodIn_app (goodIn_of _ (by decide +kernel)) ggX7_wished_X6_hasHousehold
theorem dX7_wished_0 : decode cX7_wished 0 = .ok (.aload_n 0, 1) := by decide +kernel
theorem dX7_wished_1 : decode cX7_wished 1 = .ok (.getfield 10, 3) := by decide +kernel
theorem dX7_wished_4 : decode cX7_wished 4 = .ok (.iload_n 1, 1) := by decide +kernel
theorem dX7_wished_5 : decode cX7_wished 5 = .ok (.invokevirtual 88, 3) := by decide +kernel
theorem dX7_wished_8 : decode cX7_wished 8 = .ok (.ifCond .ne 5, 3) := by decide +kernel
theorem dX7_wished_11 : decode cX7_wished 11 = .ok (.iconst (-1), 1) := by decide +kernel
theorem dX7_wished_12 : decode cX7_wished 12 = .ok (.ireturn, 1) := by decide +kernel
theorem dX7_wished_13 : decode cX7_wished 13 = .ok (.iload_n 2, 1) := by decide +kernel
theorem dX7_wished_14 : decode cX7_wished 14 = .ok (.ifCond .ge 6, 3) := by decide +kernel
theorem dX7_wished_17 : decode cX7_wished 17 = .ok (.bipush (-2), 2) := by decide +kernel
theorem dX7_wished_19 : decode cX7_wished 19 = .ok (.ireturn, 1) := by decide +kernel
theorem dX7_wished_20 : decode cX7_wished 20 = .ok (.aload_n 0, 1) := by decide +kernel
theorem dX7_wished_21 : decode cX7_wished 21 = .ok (.getfield 10, 3) := by decide +kernel
theorem dX7_wished_24 : decode cX7_wished 24 = .ok (.getfield 78, 3) := by decide +kernel
theorem dX7_wished_27 : decode cX7_wished 27 = .ok (.iload_n 1, 1) := by decide +kernel
theorem dX7_wished_28 : decode cX7_wished 28 = .ok (.aaload, 1) := by decide +kernel
theorem dX7_wished_29 : decode cX7_wished 29 = .ok (.astore_n 3, 1) := by decide +kernel
theorem dX7_wished_30 : decode cX7_wished 30 = .ok (.iload_n 2, 1) := by decide +kernel
theorem dX7_wished_31 : decode cX7_wished 31 = .ok (.aload_n 3, 1) := by decide +kernel
theorem dX7_wished_32 : decode cX7_wished 32 = .ok (.getfield 101, 3) := by decide +kernel
theorem dX7_wished_35 : decode cX7_wished 35 = .ok (.if_icmp .lt 6, 3) := by decide +kernel
theorem dX7_wished_38 : decode cX7_wished 38 = .ok (.bipush (-5), 2) := by decide +kernel
theorem dX7_wished_40 : decode cX7_wished 40 = .ok (.ireturn, 1) := by decide +kernel
theorem dX7_wished_41 : decode cX7_wished 41 = .ok (.aload_n 3, 1) := by decide +kernel
theorem dX7_wished_42 : decode cX7_wished 42 = .ok (.getfield 221, 3) := by decide +kernel
theorem dX7_wished_45 : decode cX7_wished 45 = .ok (.iload_n 2, 1) := by decide +kernel
theorem dX7_wished_46 : decode cX7_wished 46 = .ok (.iaload, 1) := by decide +kernel
theorem dX7_wished_47 : decode cX7_wished 47 = .ok (.ireturn, 1) := by decide +kernel
set_option maxRecDepth 20000 in
theorem ggX7_ordered_X6_lineUp : GoodIn wsX7_ordered wsX6_lineUp := goodIn_r _ [7, 8, 9, 10, 11, 12, 13, 6, 14, 15, 16, 17, 18, 19, 20, 21, 22, 30, 31, 32, 33, 34, 35, 36, 37, 38, 39, 40, 41, 42, 43, 44, 45, 46] (by decide +kernel) (by decide +kernel)
set_option maxRecDepth 20000 in
theorem gX7_ordered_X6_lineUp : GoodIn wsX7_ordered (wsV RX7 225 RX6 yX6_lineUp wsX6_lineUp) := goodIn_app (goodIn_of _ (by decide +kernel)) ggX7_ordered_X6_lineUp
theorem dX7_ordered_0 : decode cX7_ordered 0 = .ok (.iload_n 1, 1) := by decide +kernel
theorem dX7_ordered_1 : decode cX7_ordered 1 = .ok (.ifCond .ge 6, 3) := by decide +kernel
theorem dX7_ordered_4 : decode cX7_ordered 4 = .ok (.bipush (-2), 2) := by decide +kernel
theorem dX7_ordered_6 : decode cX7_ordered 6 = .ok (.ireturn, 1) := by decide +kernel
theorem dX7_ordered_7 : decode cX7_ordered 7 = .ok (.iload_n 1, 1) := by decide +kernel
theorem dX7_ordered_8 : decode cX7_ordered 8 = .ok (.aload_n 0, 1) := by decide +kernel
theorem dX7_ordered_9 : decode cX7_ordered 9 = .ok (.getfield 10, 3) := by decide +kernel
theorem dX7_ordered_12 : decode cX7_ordered 12 = .ok (.invokevirtual 225, 3) := by decide +kernel
theorem dX7_ordered_15 : decode cX7_ordered 15 = .ok (.if_icmp .lt 6, 3) := by decide +kernel
theorem dX7_ordered_18 : decode cX7_ordered 18 = .ok (.bipush (-5), 2) := by decide +kernel
theorem dX7_ordered_20 : decode cX7_ordered 20 = .ok (.ireturn, 1) := by decide +kernel
theorem dX7_ordered_21 : decode cX7_ordered 21 = .ok (.aload_n 0, 1) := by decide +kernel
theorem dX7_ordered_22 : decode cX7_ordered 22 = .ok (.getfield 10, 3) := by decide +kernel
theorem dX7_ordered_25 : decode cX7_ordered 25 = .ok (.getfield 228, 3) := by decide +kernel
theorem dX7_ordered_28 : decode cX7_ordered 28 = .ok (.iload_n 1, 1) := by decide +kernel
theorem dX7_ordered_29 : decode cX7_ordered 29 = .ok (.iaload, 1) := by decide +kernel
theorem dX7_ordered_30 : decode cX7_ordered 30 = .ok (.ireturn, 1) := by decide +kernel
set_option maxRecDepth 20000 in
theorem ggX7_envies_X6_hasHousehold : GoodIn wsX7_envies wsX6_hasHousehold := goodIn_r _ [7, 8, 57, 58, 59, 60, 61, 62, 63, 64] (by decide +kernel) (by decide +kernel)
set_option maxRecDepth 20000 in
theorem gX7_envies_X6_hasHousehold : GoodIn wsX7_envies (wsV RX7 88 RX6 yX6_hasHousehold wsX6_hasHousehold) := goodIn_app (goodIn_of _ (by decide +kernel)) ggX7_envies_X6_hasHousehold
set_option maxRecDepth 20000 in
theorem ggX7_envies_X6_envyOf : GoodIn wsX7_envies wsX6_envyOf := goodIn_r _ [12, 13, 14, 15, 16, 17, 18, 19, 20, 21, 22, 23, 24, 25, 26, 27, 28, 6, 29, 30, 31, 32, 33, 34, 35, 36, 37, 38, 39, 40, 41, 42, 43, 44, 45, 46, 47, 48, 49, 65, 66, 67, 68, 69, 70, 71, 72, 73, 57, 58, 59, 60, 61, 62, 63, 64, 74, 75] (by decide +kernel) (by decide +kernel)
set_option maxRecDepth 20000 in
theorem gX7_envies_X6_envyOf : GoodIn wsX7_envies (wsV RX7 231 RX6 yX6_envyOf wsX6_envyOf) := goodIn_app (goodIn_of _ (by decide +kernel)) ggX7_envies_X6_envyOf
theorem dX7_envies_0 : decode cX7_envies 0 = .ok (.aload_n 0, 1) := by decide +kernel
theorem dX7_envies_1 : decode cX7_envies 1 = .ok (.getfield 10, 3) := by decide +kernel
theorem dX7_envies_4 : decode cX7_envies 4 = .ok (.iload_n 1, 1) := by decide +kernel
theorem dX7_envies_5 : decode cX7_envies 5 = .ok (.invokevirtual 88, 3) := by decide +kernel
theorem dX7_envies_8 : decode cX7_envies 8 = .ok (.ifCond .eq 14, 3) := by decide +kernel
theorem dX7_envies_11 : decode cX7_envies 11 = .ok (.aload_n 0, 1) := by decide +kernel
theorem dX7_envies_12 : decode cX7_envies 12 = .ok (.getfield 10, 3) := by decide +kernel
theorem dX7_envies_15 : decode cX7_envies 15 = .ok (.iload_n 2, 1) := by decide +kernel
theorem dX7_envies_16 : decode cX7_envies 16 = .ok (.invokevirtual 88, 3) := by decide +kernel
theorem dX7_envies_19 : decode cX7_envies 19 = .ok (.ifCond .ne 5, 3) := by decide +kernel
theorem dX7_envies_22 : decode cX7_envies 22 = .ok (.iconst (-1), 1) := by decide +kernel
theorem dX7_envies_23 : decode cX7_envies 23 = .ok (.ireturn, 1) := by decide +kernel
theorem dX7_envies_24 : decode cX7_envies 24 = .ok (.iload_n 1, 1) := by decide +kernel
theorem dX7_envies_25 : decode cX7_envies 25 = .ok (.iload_n 2, 1) := by decide +kernel
theorem dX7_envies_26 : decode cX7_envies 26 = .ok (.if_icmp .ne 6, 3) := by decide +kernel
theorem dX7_envies_29 : decode cX7_envies 29 = .ok (.bipush (-2), 2) := by decide +kernel
theorem dX7_envies_31 : decode cX7_envies 31 = .ok (.ireturn, 1) := by decide +kernel
theorem dX7_envies_32 : decode cX7_envies 32 = .ok (.aload_n 0, 1) := by decide +kernel
theorem dX7_envies_33 : decode cX7_envies 33 = .ok (.getfield 10, 3) := by decide +kernel
theorem dX7_envies_36 : decode cX7_envies 36 = .ok (.aload_n 0, 1) := by decide +kernel
theorem dX7_envies_37 : decode cX7_envies 37 = .ok (.getfield 10, 3) := by decide +kernel
theorem dX7_envies_40 : decode cX7_envies 40 = .ok (.getfield 78, 3) := by decide +kernel
theorem dX7_envies_43 : decode cX7_envies 43 = .ok (.iload_n 1, 1) := by decide +kernel
theorem dX7_envies_44 : decode cX7_envies 44 = .ok (.aaload, 1) := by decide +kernel
theorem dX7_envies_45 : decode cX7_envies 45 = .ok (.aload_n 0, 1) := by decide +kernel
theorem dX7_envies_46 : decode cX7_envies 46 = .ok (.getfield 10, 3) := by decide +kernel
theorem dX7_envies_49 : decode cX7_envies 49 = .ok (.getfield 78, 3) := by decide +kernel
theorem dX7_envies_52 : decode cX7_envies 52 = .ok (.iload_n 2, 1) := by decide +kernel
theorem dX7_envies_53 : decode cX7_envies 53 = .ok (.aaload, 1) := by decide +kernel
theorem dX7_envies_54 : decode cX7_envies 54 = .ok (.invokevirtual 231, 3) := by decide +kernel
theorem dX7_envies_57 : decode cX7_envies 57 = .ok (.ireturn, 1) := by decide +kernel
set_option maxRecDepth 20000 in
theorem ggX7_wouldGet_X6_hasHousehold : GoodIn wsX7_wouldGet wsX6_hasHousehold := goodIn_r _ [6, 7, 61, 62, 63, 64, 65, 66, 67, 68] (by decide +kernel) (by decide +kernel)
set_option maxRecDepth 20000 in
theorem gX7_wouldGet_X6_hasHousehold : GoodIn wsX7_wouldGet (wsV RX7 88 RX6 yX6_hasHousehold wsX6_hasHousehold) := goodIn_app (goodIn_of _ (by decide +kernel)) ggX7_wouldGet_X6_hasHousehold
set_option maxRecDepth 20000 in
theorem ggX7_wouldGet_X6_flatIfAllWereFree : GoodIn wsX7_wouldGet wsX6_flatIfAllWereFree := goodIn_r _ [11, 12, 13, 14, 15, 16, 5, 17, 7, 18, 19, 20, 21, 22, 23, 24, 25, 26, 27, 28, 29, 30, 31, 32, 33, 34, 35, 36, 37, 38, 39, 40, 41, 42, 43, 44, 45, 46, 47, 48, 49, 50, 51, 52, 53, 61, 62, 63, 64, 65, 66, 67, 68, 69, 70, 71, 72, 73, 74, 75, 76, 77, 78, 79] (by decide +kernel) (by decide +kernel)
set_option maxRecDepth 20000 in
theorem gX7_wouldGet_X6_flatIfAllWereFree : GoodIn wsX7_wouldGet (wsV RX7 235 RX6 yX6_flatIfAllWereFree wsX6_flatIfAllWereFree) := goodIn_app (goodIn_of _ (by decide +kernel)) ggX7_wouldGet_X6_flatIfAllWereFree
theorem dX7_wouldGet_0 : decode cX7_wouldGet 0 = .ok (.aload_n 0, 1) := by decide +kernel
theorem dX7_wouldGet_1 : decode cX7_wouldGet 1 = .ok (.getfield 10, 3) := by decide +kernel
theorem dX7_wouldGet_4 : decode cX7_wouldGet 4 = .ok (.iload_n 1, 1) := by decide +kernel
theorem dX7_wouldGet_5 : decode cX7_wouldGet 5 = .ok (.invokevirtual 88, 3) := by decide +kernel
theorem dX7_wouldGet_8 : decode cX7_wouldGet 8 = .ok (.ifCond .ne 5, 3) := by decide +kernel
theorem dX7_wouldGet_11 : decode cX7_wouldGet 11 = .ok (.iconst (-1), 1) := by decide +kernel
theorem dX7_wouldGet_12 : decode cX7_wouldGet 12 = .ok (.ireturn, 1) := by decide +kernel
theorem dX7_wouldGet_13 : decode cX7_wouldGet 13 = .ok (.iload_n 2, 1) := by decide +kernel
theorem dX7_wouldGet_14 : decode cX7_wouldGet 14 = .ok (.bipush (-5), 2) := by decide +kernel
theorem dX7_wouldGet_16 : decode cX7_wouldGet 16 = .ok (.if_icmp .eq 16, 3) := by decide +kernel
theorem dX7_wouldGet_19 : decode cX7_wouldGet 19 = .ok (.aload_n 0, 1) := by decide +kernel
theorem dX7_wouldGet_20 : decode cX7_wouldGet 20 = .ok (.getfield 10, 3) := by decide +kernel
theorem dX7_wouldGet_23 : decode cX7_wouldGet 23 = .ok (.iload_n 2, 1) := by decide +kernel
theorem dX7_wouldGet_24 : decode cX7_wouldGet 24 = .ok (.invokevirtual 88, 3) := by decide +kernel
theorem dX7_wouldGet_27 : decode cX7_wouldGet 27 = .ok (.ifCond .ne 5, 3) := by decide +kernel
theorem dX7_wouldGet_30 : decode cX7_wouldGet 30 = .ok (.iconst (-1), 1) := by decide +kernel
theorem dX7_wouldGet_31 : decode cX7_wouldGet 31 = .ok (.ireturn, 1) := by decide +kernel
theorem dX7_wouldGet_32 : decode cX7_wouldGet 32 = .ok (.aload_n 0, 1) := by decide +kernel
theorem dX7_wouldGet_33 : decode cX7_wouldGet 33 = .ok (.getfield 10, 3) := by decide +kernel
theorem dX7_wouldGet_36 : decode cX7_wouldGet 36 = .ok (.iload_n 1, 1) := by decide +kernel
theorem dX7_wouldGet_37 : decode cX7_wouldGet 37 = .ok (.iload_n 2, 1) := by decide +kernel
theorem dX7_wouldGet_38 : decode cX7_wouldGet 38 = .ok (.invokevirtual 235, 3) := by decide +kernel
theorem dX7_wouldGet_41 : decode cX7_wouldGet 41 = .ok (.ireturn, 1) := by decide +kernel
set_option maxRecDepth 20000 in
theorem ggX7_most_X4_greatest : GoodIn wsX7_most wsX4_greatest := goodIn_r _ [7, 8, 9, 10, 11, 12, 13, 6, 14, 15, 16, 17, 18, 19, 20, 21, 22, 23, 24, 25, 26, 27, 28, 29, 30, 31, 32, 33, 34, 35, 36, 37, 38, 39, 40, 41, 42, 43, 51, 52, 53, 54, 55, 56, 57, 58, 59, 60, 61, 62, 63, 64, 65, 66, 67, 68, 69, 70, 71, 72, 73] (by decide +kernel) (by decide +kernel)
set_option maxRecDepth 20000 in
theorem gX7_most_X4_greatest : GoodIn wsX7_most (wsV RX7 238 RX4 yX4_greatest wsX4_greatest) := goodIn_app (goodIn_of _ (by decide +kernel)) ggX7_most_X4_greatest
theorem dX7_most_0 : decode cX7_most 0 = .ok (.aload_n 0, 1) := by decide +kernel
theorem dX7_most_1 : decode cX7_most 1 = .ok (.getfield 47, 3) := by decide +kernel
theorem dX7_most_4 : decode cX7_most 4 = .ok (.aload_n 0, 1) := by decide +kernel
theorem dX7_most_5 : decode cX7_most 5 = .ok (.getfield 10, 3) := by decide +kernel
theorem dX7_most_8 : decode cX7_most 8 = .ok (.invokevirtual 238, 3) := by decide +kernel
theorem dX7_most_11 : decode cX7_most 11 = .ok (.ireturn, 1) := by decide +kernel
set_option maxRecDepth 20000 in
theorem ggX7_count_X6_countHeld : GoodIn wsX7_count wsX6_countHeld := goodIn_r _ [16, 17, 18, 19, 112, 113, 114, 115, 116, 117, 118, 119, 129, 130, 131, 132, 133, 134, 135, 136, 137] (by decide +kernel) (by decide +kernel)
set_option maxRecDepth 20000 in
theorem gX7_count_X6_countHeld : GoodIn wsX7_count (wsV RX7 199 RX6 yX6_countHeld wsX6_countHeld) := goodIn_app (goodIn_of _ (by decide +kernel)) ggX7_count_X6_countHeld
set_option maxRecDepth 20000 in
theorem ggX7_count_X6_countNumbered : GoodIn wsX7_count wsX6_countNumbered := goodIn_r _ [23, 17, 18, 24, 112, 113, 114, 115, 116, 117, 118, 119, 129, 130, 131, 132, 133, 134, 135, 136, 137] (by decide +kernel) (by decide +kernel)
set_option maxRecDepth 20000 in
theorem gX7_count_X6_countNumbered : GoodIn wsX7_count (wsV RX7 139 RX6 yX6_countNumbered wsX6_countNumbered) := goodIn_app (goodIn_of _ (by decide +kernel)) ggX7_count_X6_countNumbered
set_option maxRecDepth 20000 in
theorem ggX7_count_X6_countEnvy : GoodIn wsX7_count wsX6_countEnvy := goodIn_r _ [28, 17, 18, 29, 30, 31, 15, 32, 19, 33, 34, 35, 36, 37, 38, 39, 40, 41, 42, 43, 44, 45, 46, 47, 48, 49, 50, 51, 52, 53, 54, 55, 56, 57, 58, 59, 60, 61, 62, 63, 64, 65, 66, 67, 68, 112, 113, 114, 115, 116, 117, 118, 119, 129, 130, 131, 132, 133, 134, 135, 136, 137, 138, 139] (by decide +kernel) (by decide +kernel)
set_option maxRecDepth 20000 in
theorem gX7_count_X6_countEnvy : GoodIn wsX7_count (wsV RX7 241 RX6 yX6_countEnvy wsX6_countEnvy) := goodIn_app (goodIn_of _ (by decide +kernel)) ggX7_count_X6_countEnvy
set_option maxRecDepth 20000 in
theorem ggX7_count_X5_lookAt : GoodIn wsX7_count wsX5_lookAt := goodIn_r _ [73, 74, 75, 76, 77, 78, 79, 80, 15, 81, 19, 82, 83, 33, 34, 35, 36, 37, 38, 39, 40, 41, 42, 43, 44, 84, 85, 86, 87, 17, 18, 45, 46, 47, 48, 49, 50, 51, 52, 53, 54, 55, 56, 57, 58, 59, 60, 61, 62, 112, 113, 114, 115, 116, 117, 118, 119, 140, 141, 129, 130, 131, 132, 133, 134, 135, 136, 137, 138, 139] (by decide +kernel) (by decide +kernel)
set_option maxRecDepth 20000 in
theorem gX7_count_X5_lookAt : GoodIn wsX7_count (wsV RX7 173 RX5 yX5_lookAt wsX5_lookAt) := goodIn_app (goodIn_of _ (by decide +kernel)) ggX7_count_X5_lookAt
set_option maxRecDepth 20000 in
theorem ggX7_count_X5_countHouseholds : GoodIn wsX7_count wsX5_countHouseholds := goodIn_r _ [91, 75, 92, 93, 94, 72, 95, 96, 97, 98, 99, 76, 140, 141] (by decide +kernel) (by decide +kernel)
set_option maxRecDepth 20000 in
theorem gX7_count_X5_countHouseholds : GoodIn wsX7_count (wsV RX7 244 RX5 yX5_countHouseholds wsX5_countHouseholds) := goodIn_app (goodIn_of _ (by decide +kernel)) ggX7_count_X5_countHouseholds
set_option maxRecDepth 20000 in
theorem ggX7_count_X6_countAppeals : GoodIn wsX7_count wsX6_countAppeals := goodIn_r _ [103, 17, 18, 104, 112, 113, 114, 115, 116, 117, 118, 119, 129, 130, 131, 132, 133, 134, 135, 136, 137] (by decide +kernel) (by decide +kernel)
set_option maxRecDepth 20000 in
theorem gX7_count_X6_countAppeals : GoodIn wsX7_count (wsV RX7 247 RX6 yX6_countAppeals wsX6_countAppeals) := goodIn_app (goodIn_of _ (by decide +kernel)) ggX7_count_X6_countAppeals
theorem dX7_count_0 : decode cX7_count 0 = .ok (.iload_n 1, 1) := by decide +kernel
theorem dX7_count_1 : decode cX7_count 1 = .ok (.tableswitch 184 0 12 #[67, 75, 83, 91, 99, 107, 116, 125, 144, 152, 160, 168, 176], 67) := by decide +kernel
theorem dX7_count_68 : decode cX7_count 68 = .ok (.aload_n 0, 1) := by decide +kernel
theorem dX7_count_69 : decode cX7_count 69 = .ok (.getfield 10, 3) := by decide +kernel
theorem dX7_count_72 : decode cX7_count 72 = .ok (.getfield 55, 3) := by decide +kernel
theorem dX7_count_75 : decode cX7_count 75 = .ok (.ireturn, 1) := by decide +kernel
theorem dX7_count_76 : decode cX7_count 76 = .ok (.aload_n 0, 1) := by decide +kernel
theorem dX7_count_77 : decode cX7_count 77 = .ok (.getfield 10, 3) := by decide +kernel
theorem dX7_count_80 : decode cX7_count 80 = .ok (.getfield 75, 3) := by decide +kernel
theorem dX7_count_83 : decode cX7_count 83 = .ok (.ireturn, 1) := by decide +kernel
theorem dX7_count_84 : decode cX7_count 84 = .ok (.aload_n 0, 1) := by decide +kernel
theorem dX7_count_85 : decode cX7_count 85 = .ok (.getfield 10, 3) := by decide +kernel
theorem dX7_count_88 : decode cX7_count 88 = .ok (.invokevirtual 199, 3) := by decide +kernel
theorem dX7_count_91 : decode cX7_count 91 = .ok (.ireturn, 1) := by decide +kernel
theorem dX7_count_92 : decode cX7_count 92 = .ok (.aload_n 0, 1) := by decide +kernel
theorem dX7_count_93 : decode cX7_count 93 = .ok (.getfield 10, 3) := by decide +kernel
theorem dX7_count_96 : decode cX7_count 96 = .ok (.getfield 142, 3) := by decide +kernel
theorem dX7_count_99 : decode cX7_count 99 = .ok (.ireturn, 1) := by decide +kernel
theorem dX7_count_100 : decode cX7_count 100 = .ok (.aload_n 0, 1) := by decide +kernel
theorem dX7_count_101 : decode cX7_count 101 = .ok (.getfield 10, 3) := by decide +kernel
theorem dX7_count_104 : decode cX7_count 104 = .ok (.invokevirtual 139, 3) := by decide +kernel
theorem dX7_count_107 : decode cX7_count 107 = .ok (.ireturn, 1) := by decide +kernel
theorem dX7_count_108 : decode cX7_count 108 = .ok (.aload_n 0, 1) := by decide +kernel
theorem dX7_count_109 : decode cX7_count 109 = .ok (.getfield 10, 3) := by decide +kernel
theorem dX7_count_112 : decode cX7_count 112 = .ok (.iconst 1, 1) := by decide +kernel
theorem dX7_count_113 : decode cX7_count 113 = .ok (.invokevirtual 241, 3) := by decide +kernel
theorem dX7_count_116 : decode cX7_count 116 = .ok (.ireturn, 1) := by decide +kernel
theorem dX7_count_117 : decode cX7_count 117 = .ok (.aload_n 0, 1) := by decide +kernel
theorem dX7_count_118 : decode cX7_count 118 = .ok (.getfield 10, 3) := by decide +kernel
theorem dX7_count_121 : decode cX7_count 121 = .ok (.iconst 2, 1) := by decide +kernel
theorem dX7_count_122 : decode cX7_count 122 = .ok (.invokevirtual 241, 3) := by decide +kernel
theorem dX7_count_125 : decode cX7_count 125 = .ok (.ireturn, 1) := by decide +kernel
theorem dX7_count_126 : decode cX7_count 126 = .ok (.aload_n 0, 1) := by decide +kernel
theorem dX7_count_127 : decode cX7_count 127 = .ok (.getfield 40, 3) := by decide +kernel
theorem dX7_count_130 : decode cX7_count 130 = .ok (.aload_n 0, 1) := by decide +kernel
theorem dX7_count_131 : decode cX7_count 131 = .ok (.getfield 10, 3) := by decide +kernel
theorem dX7_count_134 : decode cX7_count 134 = .ok (.invokevirtual 173, 3) := by decide +kernel
theorem dX7_count_137 : decode cX7_count 137 = .ok (.aload_n 0, 1) := by decide +kernel
theorem dX7_count_138 : decode cX7_count 138 = .ok (.getfield 40, 3) := by decide +kernel
theorem dX7_count_141 : decode cX7_count 141 = .ok (.invokevirtual 244, 3) := by decide +kernel
theorem dX7_count_144 : decode cX7_count 144 = .ok (.ireturn, 1) := by decide +kernel
theorem dX7_count_145 : decode cX7_count 145 = .ok (.aload_n 0, 1) := by decide +kernel
theorem dX7_count_146 : decode cX7_count 146 = .ok (.getfield 10, 3) := by decide +kernel
theorem dX7_count_149 : decode cX7_count 149 = .ok (.invokevirtual 247, 3) := by decide +kernel
theorem dX7_count_152 : decode cX7_count 152 = .ok (.ireturn, 1) := by decide +kernel
theorem dX7_count_153 : decode cX7_count 153 = .ok (.aload_n 0, 1) := by decide +kernel
theorem dX7_count_154 : decode cX7_count 154 = .ok (.getfield 10, 3) := by decide +kernel
theorem dX7_count_157 : decode cX7_count 157 = .ok (.getfield 170, 3) := by decide +kernel
theorem dX7_count_160 : decode cX7_count 160 = .ok (.ireturn, 1) := by decide +kernel
theorem dX7_count_161 : decode cX7_count 161 = .ok (.aload_n 0, 1) := by decide +kernel
theorem dX7_count_162 : decode cX7_count 162 = .ok (.getfield 10, 3) := by decide +kernel
theorem dX7_count_165 : decode cX7_count 165 = .ok (.getfield 160, 3) := by decide +kernel
theorem dX7_count_168 : decode cX7_count 168 = .ok (.ireturn, 1) := by decide +kernel
theorem dX7_count_169 : decode cX7_count 169 = .ok (.aload_n 0, 1) := by decide +kernel
theorem dX7_count_170 : decode cX7_count 170 = .ok (.getfield 26, 3) := by decide +kernel
theorem dX7_count_173 : decode cX7_count 173 = .ok (.getfield 190, 3) := by decide +kernel
theorem dX7_count_176 : decode cX7_count 176 = .ok (.ireturn, 1) := by decide +kernel
theorem dX7_count_177 : decode cX7_count 177 = .ok (.aload_n 0, 1) := by decide +kernel
theorem dX7_count_178 : decode cX7_count 178 = .ok (.getfield 33, 3) := by decide +kernel
theorem dX7_count_181 : decode cX7_count 181 = .ok (.getfield 187, 3) := by decide +kernel
theorem dX7_count_184 : decode cX7_count 184 = .ok (.ireturn, 1) := by decide +kernel
theorem dX7_count_185 : decode cX7_count 185 = .ok (.bipush (-2), 2) := by decide +kernel
theorem dX7_count_187 : decode cX7_count 187 = .ok (.ireturn, 1) := by decide +kernel
theorem dX7_isWithin_0 : decode cX7_isWithin 0 = .ok (.iload_n 0, 1) := by decide +kernel
theorem dX7_isWithin_1 : decode cX7_isWithin 1 = .ok (.iload_n 1, 1) := by decide +kernel
theorem dX7_isWithin_2 : decode cX7_isWithin 2 = .ok (.if_icmp .lt 12, 3) := by decide +kernel
theorem dX7_isWithin_5 : decode cX7_isWithin 5 = .ok (.iload_n 0, 1) := by decide +kernel
theorem dX7_isWithin_6 : decode cX7_isWithin 6 = .ok (.iload_n 2, 1) := by decide +kernel
theorem dX7_isWithin_7 : decode cX7_isWithin 7 = .ok (.if_icmp .gt 7, 3) := by decide +kernel
theorem dX7_isWithin_10 : decode cX7_isWithin 10 = .ok (.iconst 1, 1) := by decide +kernel
theorem dX7_isWithin_11 : decode cX7_isWithin 11 = .ok (.goto 4, 3) := by decide +kernel
theorem dX7_isWithin_14 : decode cX7_isWithin 14 = .ok (.iconst 0, 1) := by decide +kernel
theorem dX7_isWithin_15 : decode cX7_isWithin 15 = .ok (.ireturn, 1) := by decide +kernel
theorem dJ9_max_7cf53_0 : decode cJ9_max_7cf53 0 = .ok (.iload_n 0, 1) := by decide +kernel
theorem dJ9_max_7cf53_1 : decode cJ9_max_7cf53 1 = .ok (.iload_n 1, 1) := by decide +kernel
theorem dJ9_max_7cf53_2 : decode cJ9_max_7cf53 2 = .ok (.if_icmp .lt 7, 3) := by decide +kernel
theorem dJ9_max_7cf53_5 : decode cJ9_max_7cf53 5 = .ok (.iload_n 0, 1) := by decide +kernel
theorem dJ9_max_7cf53_6 : decode cJ9_max_7cf53 6 = .ok (.goto 4, 3) := by decide +kernel
theorem dJ9_max_7cf53_9 : decode cJ9_max_7cf53 9 = .ok (.iload_n 1, 1) := by decide +kernel
theorem dJ9_max_7cf53_10 : decode cJ9_max_7cf53 10 = .ok (.ireturn, 1) := by decide +kernel
abbrev vwCl : List vw_C := [(RX0, TX0, 2), (RX1, TX1, 2), (RX2, TX2, 9), (RX3, TX3, 7), (RX4, TX4, 4), (RX5, TX5, 2), (RX6, TX6, 8), (RX7, TX7, 7)]
