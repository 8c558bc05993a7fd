theorem dX8_init_0 : decode cX8_init 0 = .ok (.aload_n 0, 1) := by decide +kernel
theorem dX8_init_1 : decode cX8_init 1 = .ok (.invokespecial 3, 3) := by decide +kernel
theorem dX8_init_4 : decode cX8_init 4 = .ok (.aload_n 0, 1) := by decide +kernel
theorem dX8_init_5 : decode cX8_init 5 = .ok (.new 9, 3) := by decide +kernel
theorem dX8_init_8 : decode cX8_init 8 = .ok (.dup, 1) := by decide +kernel
theorem dX8_init_9 : decode cX8_init 9 = .ok (.invokespecial 11, 3) := by decide +kernel
theorem dX8_init_12 : decode cX8_init 12 = .ok (.putfield 12, 3) := by decide +kernel
theorem dX8_init_15 : decode cX8_init 15 = .ok (.aload_n 0, 1) := by decide +kernel
theorem dX8_init_16 : decode cX8_init 16 = .ok (.new 16, 3) := by decide +kernel
theorem dX8_init_19 : decode cX8_init 19 = .ok (.dup, 1) := by decide +kernel
theorem dX8_init_20 : decode cX8_init 20 = .ok (.invokespecial 18, 3) := by decide +kernel
theorem dX8_init_23 : decode cX8_init 23 = .ok (.putfield 19, 3) := by decide +kernel
theorem dX8_init_26 : decode cX8_init 26 = .ok (.aload_n 0, 1) := by decide +kernel
theorem dX8_init_27 : decode cX8_init 27 = .ok (.new 23, 3) := by decide +kernel
theorem dX8_init_30 : decode cX8_init 30 = .ok (.dup, 1) := by decide +kernel
theorem dX8_init_31 : decode cX8_init 31 = .ok (.aload_n 0, 1) := by decide +kernel
theorem dX8_init_32 : decode cX8_init 32 = .ok (.getfield 12, 3) := by decide +kernel
theorem dX8_init_35 : decode cX8_init 35 = .ok (.aload_n 0, 1) := by decide +kernel
theorem dX8_init_36 : decode cX8_init 36 = .ok (.getfield 19, 3) := by decide +kernel
theorem dX8_init_39 : decode cX8_init 39 = .ok (.invokespecial 25, 3) := by decide +kernel
theorem dX8_init_42 : decode cX8_init 42 = .ok (.putfield 28, 3) := by decide +kernel
theorem dX8_init_45 : decode cX8_init 45 = .ok (.aload_n 0, 1) := by decide +kernel
theorem dX8_init_46 : decode cX8_init 46 = .ok (.new 32, 3) := by decide +kernel
theorem dX8_init_49 : decode cX8_init 49 = .ok (.dup, 1) := by decide +kernel
theorem dX8_init_50 : decode cX8_init 50 = .ok (.aload_n 0, 1) := by decide +kernel
theorem dX8_init_51 : decode cX8_init 51 = .ok (.getfield 12, 3) := by decide +kernel
theorem dX8_init_54 : decode cX8_init 54 = .ok (.aload_n 0, 1) := by decide +kernel
theorem dX8_init_55 : decode cX8_init 55 = .ok (.getfield 19, 3) := by decide +kernel
theorem dX8_init_58 : decode cX8_init 58 = .ok (.invokespecial 34, 3) := by decide +kernel
theorem dX8_init_61 : decode cX8_init 61 = .ok (.putfield 35, 3) := by decide +kernel
theorem dX8_init_64 : decode cX8_init 64 = .ok (.aload_n 0, 1) := by decide +kernel
theorem dX8_init_65 : decode cX8_init 65 = .ok (.new 39, 3) := by decide +kernel
theorem dX8_init_68 : decode cX8_init 68 = .ok (.dup, 1) := by decide +kernel
theorem dX8_init_69 : decode cX8_init 69 = .ok (.aload_n 0, 1) := by decide +kernel
theorem dX8_init_70 : decode cX8_init 70 = .ok (.getfield 12, 3) := by decide +kernel
theorem dX8_init_73 : decode cX8_init 73 = .ok (.aload_n 0, 1) := by decide +kernel
theorem dX8_init_74 : decode cX8_init 74 = .ok (.getfield 19, 3) := by decide +kernel
theorem dX8_init_77 : decode cX8_init 77 = .ok (.invokespecial 41, 3) := by decide +kernel
theorem dX8_init_80 : decode cX8_init 80 = .ok (.putfield 42, 3) := by decide +kernel
theorem dX8_init_83 : decode cX8_init 83 = .ok (.aload_n 0, 1) := by decide +kernel
theorem dX8_init_84 : decode cX8_init 84 = .ok (.new 46, 3) := by decide +kernel
theorem dX8_init_87 : decode cX8_init 87 = .ok (.dup, 1) := by decide +kernel
theorem dX8_init_88 : decode cX8_init 88 = .ok (.invokespecial 48, 3) := by decide +kernel
theorem dX8_init_91 : decode cX8_init 91 = .ok (.putfield 49, 3) := by decide +kernel
theorem dX8_init_94 : decode cX8_init 94 = .ok (.aload_n 0, 1) := by decide +kernel
theorem dX8_init_95 : decode cX8_init 95 = .ok (.new 53, 3) := by decide +kernel
theorem dX8_init_98 : decode cX8_init 98 = .ok (.dup, 1) := by decide +kernel
theorem dX8_init_99 : decode cX8_init 99 = .ok (.invokespecial 55, 3) := by decide +kernel
theorem dX8_init_102 : decode cX8_init 102 = .ok (.putfield 56, 3) := by decide +kernel
theorem dX8_init_105 : decode cX8_init 105 = .ok (.aload_n 0, 1) := by decide +kernel
theorem dX8_init_106 : decode cX8_init 106 = .ok (.new 16, 3) := by decide +kernel
theorem dX8_init_109 : decode cX8_init 109 = .ok (.dup, 1) := by decide +kernel
theorem dX8_init_110 : decode cX8_init 110 = .ok (.invokespecial 18, 3) := by decide +kernel
theorem dX8_init_113 : decode cX8_init 113 = .ok (.putfield 60, 3) := by decide +kernel
theorem dX8_init_116 : decode cX8_init 116 = .ok (.aload_n 0, 1) := by decide +kernel
theorem dX8_init_117 : decode cX8_init 117 = .ok (.iconst 0, 1) := by decide +kernel
theorem dX8_init_118 : decode cX8_init 118 = .ok (.putfield 63, 3) := by decide +kernel
theorem dX8_init_121 : decode cX8_init 121 = .ok (.return_, 1) := by decide +kernel
set_option maxRecDepth 20000 in
theorem ggX8_strew_X8_isPlace : GoodIn wsX8_strew wsX8_isPlace := goodIn_r _ [6] (by decide +kernel) (by decide +kernel)
set_option maxRecDepth 20000 in
theorem gX8_strew_X8_isPlace : GoodIn wsX8_strew (va_wsS RX8 67 yX8_isPlace wsX8_isPlace) := goodIn_app (goodIn_of _ (by decide +kernel)) ggX8_strew_X8_isPlace
set_option maxRecDepth 20000 in
theorem ggX8_strew_X2_record : GoodIn wsX8_strew wsX2_record := goodIn_r _ [11, 12, 13, 14, 15, 16, 17, 18, 19, 20, 21, 22, 23, 24, 25, 26, 27, 28, 29, 30, 31, 32, 33, 34, 35, 36, 37, 38, 39, 40, 41, 42, 43, 44, 45, 46, 47, 48, 49, 50, 51, 52, 53, 78, 79, 80, 66, 67, 68, 69, 70, 71, 72, 73, 74, 75, 76, 77, 81, 82, 83, 84, 85] (by decide +kernel) (by decide +kernel)
set_option maxRecDepth 20000 in
theorem gX8_strew_X2_record : GoodIn wsX8_strew (wsV RX8 71 RX2 yX2_record wsX2_record) := goodIn_app (goodIn_of _ (by decide +kernel)) ggX8_strew_X2_record
set_option maxRecDepth 20000 in
theorem ggX8_strew_X8_placeOf : GoodIn wsX8_strew wsX8_placeOf := goodIn_r _ [56] (by decide +kernel) (by decide +kernel)
set_option maxRecDepth 20000 in
theorem gX8_strew_X8_placeOf : GoodIn wsX8_strew (va_wsS RX8 75 yX8_placeOf wsX8_placeOf) := goodIn_app (goodIn_of _ (by decide +kernel)) ggX8_strew_X8_placeOf
theorem dX8_strew_0 : decode cX8_strew 0 = .ok (.iload_n 1, 1) := by decide +kernel
theorem dX8_strew_1 : decode cX8_strew 1 = .ok (.iload_n 2, 1) := by decide +kernel
theorem dX8_strew_2 : decode cX8_strew 2 = .ok (.invokestatic 67, 3) := by decide +kernel
theorem dX8_strew_5 : decode cX8_strew 5 = .ok (.ifCond .ne 5, 3) := by decide +kernel
theorem dX8_strew_8 : decode cX8_strew 8 = .ok (.iconst (-1), 1) := by decide +kernel
theorem dX8_strew_9 : decode cX8_strew 9 = .ok (.ireturn, 1) := by decide +kernel
theorem dX8_strew_10 : decode cX8_strew 10 = .ok (.iload_n 3, 1) := by decide +kernel
theorem dX8_strew_11 : decode cX8_strew 11 = .ok (.iconst 1, 1) := by decide +kernel
theorem dX8_strew_12 : decode cX8_strew 12 = .ok (.if_icmp .lt 9, 3) := by decide +kernel
theorem dX8_strew_15 : decode cX8_strew 15 = .ok (.iload_n 3, 1) := by decide +kernel
theorem dX8_strew_16 : decode cX8_strew 16 = .ok (.bipush 99, 2) := by decide +kernel
theorem dX8_strew_18 : decode cX8_strew 18 = .ok (.if_icmp .le 6, 3) := by decide +kernel
theorem dX8_strew_21 : decode cX8_strew 21 = .ok (.bipush (-2), 2) := by decide +kernel
theorem dX8_strew_23 : decode cX8_strew 23 = .ok (.ireturn, 1) := by decide +kernel
theorem dX8_strew_24 : decode cX8_strew 24 = .ok (.aload_n 0, 1) := by decide +kernel
theorem dX8_strew_25 : decode cX8_strew 25 = .ok (.getfield 56, 3) := by decide +kernel
theorem dX8_strew_28 : decode cX8_strew 28 = .ok (.aload_n 0, 1) := by decide +kernel
theorem dX8_strew_29 : decode cX8_strew 29 = .ok (.getfield 19, 3) := by decide +kernel
theorem dX8_strew_32 : decode cX8_strew 32 = .ok (.invokevirtual 71, 3) := by decide +kernel
theorem dX8_strew_35 : decode cX8_strew 35 = .ok (.iload_n 1, 1) := by decide +kernel
theorem dX8_strew_36 : decode cX8_strew 36 = .ok (.iload_n 2, 1) := by decide +kernel
theorem dX8_strew_37 : decode cX8_strew 37 = .ok (.invokestatic 75, 3) := by decide +kernel
theorem dX8_strew_40 : decode cX8_strew 40 = .ok (.istore 4, 2) := by decide +kernel
theorem dX8_strew_42 : decode cX8_strew 42 = .ok (.aload_n 0, 1) := by decide +kernel
theorem dX8_strew_43 : decode cX8_strew 43 = .ok (.getfield 19, 3) := by decide +kernel
theorem dX8_strew_46 : decode cX8_strew 46 = .ok (.getfield 79, 3) := by decide +kernel
theorem dX8_strew_49 : decode cX8_strew 49 = .ok (.iload 4, 2) := by decide +kernel
theorem dX8_strew_51 : decode cX8_strew 51 = .ok (.dup2, 1) := by decide +kernel
theorem dX8_strew_52 : decode cX8_strew 52 = .ok (.iaload, 1) := by decide +kernel
theorem dX8_strew_53 : decode cX8_strew 53 = .ok (.iload_n 3, 1) := by decide +kernel
theorem dX8_strew_54 : decode cX8_strew 54 = .ok (.iadd, 1) := by decide +kernel
theorem dX8_strew_55 : decode cX8_strew 55 = .ok (.iastore, 1) := by decide +kernel
theorem dX8_strew_56 : decode cX8_strew 56 = .ok (.aload_n 0, 1) := by decide +kernel
theorem dX8_strew_57 : decode cX8_strew 57 = .ok (.getfield 19, 3) := by decide +kernel
theorem dX8_strew_60 : decode cX8_strew 60 = .ok (.dup, 1) := by decide +kernel
theorem dX8_strew_61 : decode cX8_strew 61 = .ok (.getfield 83, 3) := by decide +kernel
theorem dX8_strew_64 : decode cX8_strew 64 = .ok (.iload_n 3, 1) := by decide +kernel
theorem dX8_strew_65 : decode cX8_strew 65 = .ok (.iadd, 1) := by decide +kernel
theorem dX8_strew_66 : decode cX8_strew 66 = .ok (.putfield 83, 3) := by decide +kernel
theorem dX8_strew_69 : decode cX8_strew 69 = .ok (.aload_n 0, 1) := by decide +kernel
theorem dX8_strew_70 : decode cX8_strew 70 = .ok (.getfield 19, 3) := by decide +kernel
theorem dX8_strew_73 : decode cX8_strew 73 = .ok (.getfield 79, 3) := by decide +kernel
theorem dX8_strew_76 : decode cX8_strew 76 = .ok (.iload 4, 2) := by decide +kernel
theorem dX8_strew_78 : decode cX8_strew 78 = .ok (.iaload, 1) := by decide +kernel
theorem dX8_strew_79 : decode cX8_strew 79 = .ok (.ireturn, 1) := by decide +kernel
set_option maxRecDepth 20000 in
theorem ggX8_sweep_X2_record : GoodIn wsX8_sweep wsX2_record := goodIn_r _ [7, 8, 9, 10, 11, 12, 13, 14, 15, 16, 17, 18, 19, 20, 21, 22, 23, 24, 25, 26, 27, 28, 29, 30, 31, 32, 33, 34, 35, 36, 37, 38, 39, 40, 41, 42, 43, 44, 45, 46, 47, 48, 49, 79, 80, 81, 67, 68, 69, 70, 71, 72, 73, 74, 75, 76, 77, 78, 82, 83, 84, 85, 86] (by decide +kernel) (by decide +kernel)
set_option maxRecDepth 20000 in
theorem gX8_sweep_X2_record : GoodIn wsX8_sweep (wsV RX8 71 RX2 yX2_record wsX2_record) := goodIn_app (goodIn_of _ (by decide +kernel)) ggX8_sweep_X2_record
set_option maxRecDepth 20000 in
theorem ggX8_sweep_X5_allGrains : GoodIn wsX8_sweep wsX5_allGrains := goodIn_r _ [53, 16, 67, 68, 69, 70, 71, 72, 73, 74, 75, 76, 77, 78] (by decide +kernel) (by decide +kernel)
set_option maxRecDepth 20000 in
theorem gX8_sweep_X5_allGrains : GoodIn wsX8_sweep (wsV RX8 87 RX5 yX5_allGrains wsX5_allGrains) := goodIn_app (goodIn_of _ (by decide +kernel)) ggX8_sweep_X5_allGrains
set_option maxRecDepth 20000 in
theorem ggX8_sweep_X5_coverWith : GoodIn wsX8_sweep wsX5_coverWith := goodIn_r _ [57, 16, 67, 68, 69, 70, 71, 72, 73, 74, 75, 76, 77, 78] (by decide +kernel) (by decide +kernel)
set_option maxRecDepth 20000 in
theorem gX8_sweep_X5_coverWith : GoodIn wsX8_sweep (wsV RX8 94 RX5 yX5_coverWith wsX5_coverWith) := goodIn_app (goodIn_of _ (by decide +kernel)) ggX8_sweep_X5_coverWith
theorem dX8_sweep_0 : decode cX8_sweep 0 = .ok (.iload_n 1, 1) := by decide +kernel
theorem dX8_sweep_1 : decode cX8_sweep 1 = .ok (.ifCond .lt 9, 3) := by decide +kernel
theorem dX8_sweep_4 : decode cX8_sweep 4 = .ok (.iload_n 1, 1) := by decide +kernel
theorem dX8_sweep_5 : decode cX8_sweep 5 = .ok (.bipush 99, 2) := by decide +kernel
theorem dX8_sweep_7 : decode cX8_sweep 7 = .ok (.if_icmp .le 6, 3) := by decide +kernel
theorem dX8_sweep_10 : decode cX8_sweep 10 = .ok (.bipush (-2), 2) := by decide +kernel
theorem dX8_sweep_12 : decode cX8_sweep 12 = .ok (.ireturn, 1) := by decide +kernel
theorem dX8_sweep_13 : decode cX8_sweep 13 = .ok (.aload_n 0, 1) := by decide +kernel
theorem dX8_sweep_14 : decode cX8_sweep 14 = .ok (.getfield 56, 3) := by decide +kernel
theorem dX8_sweep_17 : decode cX8_sweep 17 = .ok (.aload_n 0, 1) := by decide +kernel
theorem dX8_sweep_18 : decode cX8_sweep 18 = .ok (.getfield 19, 3) := by decide +kernel
theorem dX8_sweep_21 : decode cX8_sweep 21 = .ok (.invokevirtual 71, 3) := by decide +kernel
theorem dX8_sweep_24 : decode cX8_sweep 24 = .ok (.aload_n 0, 1) := by decide +kernel
theorem dX8_sweep_25 : decode cX8_sweep 25 = .ok (.getfield 19, 3) := by decide +kernel
theorem dX8_sweep_28 : decode cX8_sweep 28 = .ok (.invokevirtual 87, 3) := by decide +kernel
theorem dX8_sweep_31 : decode cX8_sweep 31 = .ok (.istore_n 2, 1) := by decide +kernel
theorem dX8_sweep_32 : decode cX8_sweep 32 = .ok (.aload_n 0, 1) := by decide +kernel
theorem dX8_sweep_33 : decode cX8_sweep 33 = .ok (.getfield 19, 3) := by decide +kernel
theorem dX8_sweep_36 : decode cX8_sweep 36 = .ok (.dup, 1) := by decide +kernel
theorem dX8_sweep_37 : decode cX8_sweep 37 = .ok (.getfield 91, 3) := by decide +kernel
theorem dX8_sweep_40 : decode cX8_sweep 40 = .ok (.iload_n 2, 1) := by decide +kernel
theorem dX8_sweep_41 : decode cX8_sweep 41 = .ok (.iadd, 1) := by decide +kernel
theorem dX8_sweep_42 : decode cX8_sweep 42 = .ok (.putfield 91, 3) := by decide +kernel
theorem dX8_sweep_45 : decode cX8_sweep 45 = .ok (.aload_n 0, 1) := by decide +kernel
theorem dX8_sweep_46 : decode cX8_sweep 46 = .ok (.getfield 19, 3) := by decide +kernel
theorem dX8_sweep_49 : decode cX8_sweep 49 = .ok (.dup, 1) := by decide +kernel
theorem dX8_sweep_50 : decode cX8_sweep 50 = .ok (.getfield 83, 3) := by decide +kernel
theorem dX8_sweep_53 : decode cX8_sweep 53 = .ok (.sipush 144, 3) := by decide +kernel
theorem dX8_sweep_56 : decode cX8_sweep 56 = .ok (.iload_n 1, 1) := by decide +kernel
theorem dX8_sweep_57 : decode cX8_sweep 57 = .ok (.imul, 1) := by decide +kernel
theorem dX8_sweep_58 : decode cX8_sweep 58 = .ok (.iadd, 1) := by decide +kernel
theorem dX8_sweep_59 : decode cX8_sweep 59 = .ok (.putfield 83, 3) := by decide +kernel
theorem dX8_sweep_62 : decode cX8_sweep 62 = .ok (.aload_n 0, 1) := by decide +kernel
theorem dX8_sweep_63 : decode cX8_sweep 63 = .ok (.getfield 19, 3) := by decide +kernel
theorem dX8_sweep_66 : decode cX8_sweep 66 = .ok (.iload_n 1, 1) := by decide +kernel
theorem dX8_sweep_67 : decode cX8_sweep 67 = .ok (.invokevirtual 94, 3) := by decide +kernel
theorem dX8_sweep_70 : decode cX8_sweep 70 = .ok (.iload_n 2, 1) := by decide +kernel
theorem dX8_sweep_71 : decode cX8_sweep 71 = .ok (.ireturn, 1) := by decide +kernel
set_option maxRecDepth 20000 in
theorem ggX8_clamp_X8_isPlace : GoodIn wsX8_clamp wsX8_isPlace := goodIn_r _ [6] (by decide +kernel) (by decide +kernel)
set_option maxRecDepth 20000 in
theorem gX8_clamp_X8_isPlace : GoodIn wsX8_clamp (va_wsS RX8 67 yX8_isPlace wsX8_isPlace) := goodIn_app (goodIn_of _ (by decide +kernel)) ggX8_clamp_X8_isPlace
set_option maxRecDepth 20000 in
theorem ggX8_clamp_X5_clampOn : GoodIn wsX8_clamp wsX5_clampOn := goodIn_r _ [11, 12, 13, 14, 67, 68, 69, 70, 71, 72, 73, 74, 75, 76, 77, 78] (by decide +kernel) (by decide +kernel)
set_option maxRecDepth 20000 in
theorem gX8_clamp_X5_clampOn : GoodIn wsX8_clamp (wsV RX8 101 RX5 yX5_clampOn wsX5_clampOn) := goodIn_app (goodIn_of _ (by decide +kernel)) ggX8_clamp_X5_clampOn
set_option maxRecDepth 20000 in
theorem ggX8_clamp_X2_record : GoodIn wsX8_clamp wsX2_record := goodIn_r _ [19, 20, 21, 22, 23, 24, 25, 10, 26, 27, 28, 29, 30, 31, 13, 14, 12, 32, 33, 34, 35, 36, 37, 38, 39, 40, 41, 42, 43, 44, 45, 46, 47, 48, 49, 50, 51, 52, 53, 54, 55, 56, 57, 79, 80, 81, 67, 68, 69, 70, 71, 72, 73, 74, 75, 76, 77, 78, 82, 83, 84, 85, 86] (by decide +kernel) (by decide +kernel)
set_option maxRecDepth 20000 in
theorem gX8_clamp_X2_record : GoodIn wsX8_clamp (wsV RX8 71 RX2 yX2_record wsX2_record) := goodIn_app (goodIn_of _ (by decide +kernel)) ggX8_clamp_X2_record
theorem dX8_clamp_0 : decode cX8_clamp 0 = .ok (.iload_n 1, 1) := by decide +kernel
theorem dX8_clamp_1 : decode cX8_clamp 1 = .ok (.iload_n 2, 1) := by decide +kernel
theorem dX8_clamp_2 : decode cX8_clamp 2 = .ok (.invokestatic 67, 3) := by decide +kernel
theorem dX8_clamp_5 : decode cX8_clamp 5 = .ok (.ifCond .ne 5, 3) := by decide +kernel
theorem dX8_clamp_8 : decode cX8_clamp 8 = .ok (.iconst (-1), 1) := by decide +kernel
theorem dX8_clamp_9 : decode cX8_clamp 9 = .ok (.ireturn, 1) := by decide +kernel
theorem dX8_clamp_10 : decode cX8_clamp 10 = .ok (.aload_n 0, 1) := by decide +kernel
theorem dX8_clamp_11 : decode cX8_clamp 11 = .ok (.getfield 19, 3) := by decide +kernel
theorem dX8_clamp_14 : decode cX8_clamp 14 = .ok (.getfield 98, 3) := by decide +kernel
theorem dX8_clamp_17 : decode cX8_clamp 17 = .ok (.iconst 4, 1) := by decide +kernel
theorem dX8_clamp_18 : decode cX8_clamp 18 = .ok (.if_icmp .lt 6, 3) := by decide +kernel
theorem dX8_clamp_21 : decode cX8_clamp 21 = .ok (.bipush (-3), 2) := by decide +kernel
theorem dX8_clamp_23 : decode cX8_clamp 23 = .ok (.ireturn, 1) := by decide +kernel
theorem dX8_clamp_24 : decode cX8_clamp 24 = .ok (.aload_n 0, 1) := by decide +kernel
theorem dX8_clamp_25 : decode cX8_clamp 25 = .ok (.getfield 19, 3) := by decide +kernel
theorem dX8_clamp_28 : decode cX8_clamp 28 = .ok (.iload_n 1, 1) := by decide +kernel
theorem dX8_clamp_29 : decode cX8_clamp 29 = .ok (.iload_n 2, 1) := by decide +kernel
theorem dX8_clamp_30 : decode cX8_clamp 30 = .ok (.invokevirtual 101, 3) := by decide +kernel
theorem dX8_clamp_33 : decode cX8_clamp 33 = .ok (.ifCond .lt 6, 3) := by decide +kernel
theorem dX8_clamp_36 : decode cX8_clamp 36 = .ok (.bipush (-5), 2) := by decide +kernel
theorem dX8_clamp_38 : decode cX8_clamp 38 = .ok (.ireturn, 1) := by decide +kernel
theorem dX8_clamp_39 : decode cX8_clamp 39 = .ok (.aload_n 0, 1) := by decide +kernel
theorem dX8_clamp_40 : decode cX8_clamp 40 = .ok (.getfield 56, 3) := by decide +kernel
theorem dX8_clamp_43 : decode cX8_clamp 43 = .ok (.aload_n 0, 1) := by decide +kernel
theorem dX8_clamp_44 : decode cX8_clamp 44 = .ok (.getfield 19, 3) := by decide +kernel
theorem dX8_clamp_47 : decode cX8_clamp 47 = .ok (.invokevirtual 71, 3) := by decide +kernel
theorem dX8_clamp_50 : decode cX8_clamp 50 = .ok (.aload_n 0, 1) := by decide +kernel
theorem dX8_clamp_51 : decode cX8_clamp 51 = .ok (.getfield 19, 3) := by decide +kernel
theorem dX8_clamp_54 : decode cX8_clamp 54 = .ok (.getfield 104, 3) := by decide +kernel
theorem dX8_clamp_57 : decode cX8_clamp 57 = .ok (.aload_n 0, 1) := by decide +kernel
theorem dX8_clamp_58 : decode cX8_clamp 58 = .ok (.getfield 19, 3) := by decide +kernel
theorem dX8_clamp_61 : decode cX8_clamp 61 = .ok (.getfield 98, 3) := by decide +kernel
theorem dX8_clamp_64 : decode cX8_clamp 64 = .ok (.iload_n 1, 1) := by decide +kernel
theorem dX8_clamp_65 : decode cX8_clamp 65 = .ok (.iastore, 1) := by decide +kernel
theorem dX8_clamp_66 : decode cX8_clamp 66 = .ok (.aload_n 0, 1) := by decide +kernel
theorem dX8_clamp_67 : decode cX8_clamp 67 = .ok (.getfield 19, 3) := by decide +kernel
theorem dX8_clamp_70 : decode cX8_clamp 70 = .ok (.getfield 107, 3) := by decide +kernel
theorem dX8_clamp_73 : decode cX8_clamp 73 = .ok (.aload_n 0, 1) := by decide +kernel
theorem dX8_clamp_74 : decode cX8_clamp 74 = .ok (.getfield 19, 3) := by decide +kernel
theorem dX8_clamp_77 : decode cX8_clamp 77 = .ok (.getfield 98, 3) := by decide +kernel
theorem dX8_clamp_80 : decode cX8_clamp 80 = .ok (.iload_n 2, 1) := by decide +kernel
theorem dX8_clamp_81 : decode cX8_clamp 81 = .ok (.iastore, 1) := by decide +kernel
theorem dX8_clamp_82 : decode cX8_clamp 82 = .ok (.aload_n 0, 1) := by decide +kernel
theorem dX8_clamp_83 : decode cX8_clamp 83 = .ok (.getfield 19, 3) := by decide +kernel
theorem dX8_clamp_86 : decode cX8_clamp 86 = .ok (.dup, 1) := by decide +kernel
theorem dX8_clamp_87 : decode cX8_clamp 87 = .ok (.getfield 98, 3) := by decide +kernel
theorem dX8_clamp_90 : decode cX8_clamp 90 = .ok (.iconst 1, 1) := by decide +kernel
theorem dX8_clamp_91 : decode cX8_clamp 91 = .ok (.iadd, 1) := by decide +kernel
theorem dX8_clamp_92 : decode cX8_clamp 92 = .ok (.putfield 98, 3) := by decide +kernel
theorem dX8_clamp_95 : decode cX8_clamp 95 = .ok (.aload_n 0, 1) := by decide +kernel
theorem dX8_clamp_96 : decode cX8_clamp 96 = .ok (.getfield 19, 3) := by decide +kernel
theorem dX8_clamp_99 : decode cX8_clamp 99 = .ok (.getfield 98, 3) := by decide +kernel
theorem dX8_clamp_102 : decode cX8_clamp 102 = .ok (.ireturn, 1) := by decide +kernel
set_option maxRecDepth 20000 in
theorem ggX8_unclamp_X8_isClamp : GoodIn wsX8_unclamp wsX8_isClamp := goodIn_r _ [7, 2, 59, 60, 61, 62, 63, 64, 65, 66, 67, 68, 69, 70, 71, 72, 73, 74, 75, 76, 77, 78, 79] (by decide +kernel) (by decide +kernel)
set_option maxRecDepth 20000 in
theorem gX8_unclamp_X8_isClamp : GoodIn wsX8_unclamp (wsV RX8 110 RX8 yX8_isClamp wsX8_isClamp) := goodIn_app (goodIn_of _ (by decide +kernel)) ggX8_unclamp_X8_isClamp
set_option maxRecDepth 20000 in
theorem ggX8_unclamp_X2_record : GoodIn wsX8_unclamp wsX2_record := goodIn_r _ [12, 13, 14, 15, 16, 17, 18, 19, 20, 21, 22, 23, 24, 25, 26, 27, 28, 29, 30, 31, 32, 33, 34, 35, 36, 37, 38, 39, 40, 41, 42, 43, 44, 45, 46, 47, 48, 49, 50, 51, 52, 53, 54, 80, 81, 82, 68, 69, 70, 71, 72, 73, 74, 75, 76, 77, 78, 79, 83, 84, 85, 86, 87] (by decide +kernel) (by decide +kernel)
set_option maxRecDepth 20000 in
theorem gX8_unclamp_X2_record : GoodIn wsX8_unclamp (wsV RX8 71 RX2 yX2_record wsX2_record) := goodIn_app (goodIn_of _ (by decide +kernel)) ggX8_unclamp_X2_record
set_option maxRecDepth 20000 in
theorem ggX8_unclamp_X5_dropClamp : GoodIn wsX8_unclamp wsX5_dropClamp := goodIn_r _ [58, 28, 26, 27, 68, 69, 70, 71, 72, 73, 74, 75, 76, 77, 78, 79] (by decide +kernel) (by decide +kernel)
set_option maxRecDepth 20000 in
theorem gX8_unclamp_X5_dropClamp : GoodIn wsX8_unclamp (wsV RX8 114 RX5 yX5_dropClamp wsX5_dropClamp) := goodIn_app (goodIn_of _ (by decide +kernel)) ggX8_unclamp_X5_dropClamp
theorem dX8_unclamp_0 : decode cX8_unclamp 0 = .ok (.aload_n 0, 1) := by decide +kernel
theorem dX8_unclamp_1 : decode cX8_unclamp 1 = .ok (.iload_n 1, 1) := by decide +kernel
theorem dX8_unclamp_2 : decode cX8_unclamp 2 = .ok (.invokevirtual 110, 3) := by decide +kernel
theorem dX8_unclamp_5 : decode cX8_unclamp 5 = .ok (.ifCond .ne 5, 3) := by decide +kernel
theorem dX8_unclamp_8 : decode cX8_unclamp 8 = .ok (.iconst (-1), 1) := by decide +kernel
theorem dX8_unclamp_9 : decode cX8_unclamp 9 = .ok (.ireturn, 1) := by decide +kernel
theorem dX8_unclamp_10 : decode cX8_unclamp 10 = .ok (.aload_n 0, 1) := by decide +kernel
theorem dX8_unclamp_11 : decode cX8_unclamp 11 = .ok (.getfield 56, 3) := by decide +kernel
theorem dX8_unclamp_14 : decode cX8_unclamp 14 = .ok (.aload_n 0, 1) := by decide +kernel
theorem dX8_unclamp_15 : decode cX8_unclamp 15 = .ok (.getfield 19, 3) := by decide +kernel
theorem dX8_unclamp_18 : decode cX8_unclamp 18 = .ok (.invokevirtual 71, 3) := by decide +kernel
theorem dX8_unclamp_21 : decode cX8_unclamp 21 = .ok (.aload_n 0, 1) := by decide +kernel
theorem dX8_unclamp_22 : decode cX8_unclamp 22 = .ok (.getfield 19, 3) := by decide +kernel
theorem dX8_unclamp_25 : decode cX8_unclamp 25 = .ok (.iload_n 1, 1) := by decide +kernel
theorem dX8_unclamp_26 : decode cX8_unclamp 26 = .ok (.invokevirtual 114, 3) := by decide +kernel
theorem dX8_unclamp_29 : decode cX8_unclamp 29 = .ok (.aload_n 0, 1) := by decide +kernel
theorem dX8_unclamp_30 : decode cX8_unclamp 30 = .ok (.getfield 19, 3) := by decide +kernel
theorem dX8_unclamp_33 : decode cX8_unclamp 33 = .ok (.getfield 98, 3) := by decide +kernel
theorem dX8_unclamp_36 : decode cX8_unclamp 36 = .ok (.ireturn, 1) := by decide +kernel
set_option maxRecDepth 20000 in
theorem ggX8_set_X2_record : GoodIn wsX8_set wsX2_record := goodIn_r _ [9, 10, 11, 12, 13, 14, 15, 16, 17, 18, 19, 20, 21, 22, 23, 24, 25, 26, 27, 28, 29, 30, 31, 32, 33, 34, 35, 36, 37, 38, 39, 40, 41, 42, 43, 44, 45, 46, 47, 48, 49, 50, 51, 73, 74, 75, 61, 62, 63, 64, 65, 66, 67, 68, 69, 70, 71, 72, 76, 77, 78, 79, 80] (by decide +kernel) (by decide +kernel)
set_option maxRecDepth 20000 in
theorem gX8_set_X2_record : GoodIn wsX8_set (wsV RX8 71 RX2 yX2_record wsX2_record) := goodIn_app (goodIn_of _ (by decide +kernel)) ggX8_set_X2_record
theorem dX8_set_0 : decode cX8_set 0 = .ok (.iload_n 1, 1) := by decide +kernel
theorem dX8_set_1 : decode cX8_set 1 = .ok (.ifCond .lt 8, 3) := by decide +kernel
theorem dX8_set_4 : decode cX8_set 4 = .ok (.iload_n 1, 1) := by decide +kernel
theorem dX8_set_5 : decode cX8_set 5 = .ok (.iconst 4, 1) := by decide +kernel
theorem dX8_set_6 : decode cX8_set 6 = .ok (.if_icmp .lt 6, 3) := by decide +kernel
theorem dX8_set_9 : decode cX8_set 9 = .ok (.bipush (-2), 2) := by decide +kernel
theorem dX8_set_11 : decode cX8_set 11 = .ok (.ireturn, 1) := by decide +kernel
theorem dX8_set_12 : decode cX8_set 12 = .ok (.iload_n 2, 1) := by decide +kernel
theorem dX8_set_13 : decode cX8_set 13 = .ok (.getstatic 117, 3) := by decide +kernel
theorem dX8_set_16 : decode cX8_set 16 = .ok (.iload_n 1, 1) := by decide +kernel
theorem dX8_set_17 : decode cX8_set 17 = .ok (.iaload, 1) := by decide +kernel
theorem dX8_set_18 : decode cX8_set 18 = .ok (.if_icmp .lt 12, 3) := by decide +kernel
theorem dX8_set_21 : decode cX8_set 21 = .ok (.iload_n 2, 1) := by decide +kernel
theorem dX8_set_22 : decode cX8_set 22 = .ok (.getstatic 120, 3) := by decide +kernel
theorem dX8_set_25 : decode cX8_set 25 = .ok (.iload_n 1, 1) := by decide +kernel
theorem dX8_set_26 : decode cX8_set 26 = .ok (.iaload, 1) := by decide +kernel
theorem dX8_set_27 : decode cX8_set 27 = .ok (.if_icmp .le 6, 3) := by decide +kernel
theorem dX8_set_30 : decode cX8_set 30 = .ok (.bipush (-2), 2) := by decide +kernel
theorem dX8_set_32 : decode cX8_set 32 = .ok (.ireturn, 1) := by decide +kernel
theorem dX8_set_33 : decode cX8_set 33 = .ok (.aload_n 0, 1) := by decide +kernel
theorem dX8_set_34 : decode cX8_set 34 = .ok (.getfield 19, 3) := by decide +kernel
theorem dX8_set_37 : decode cX8_set 37 = .ok (.getfield 123, 3) := by decide +kernel
theorem dX8_set_40 : decode cX8_set 40 = .ok (.iload_n 1, 1) := by decide +kernel
theorem dX8_set_41 : decode cX8_set 41 = .ok (.iaload, 1) := by decide +kernel
theorem dX8_set_42 : decode cX8_set 42 = .ok (.istore_n 3, 1) := by decide +kernel
theorem dX8_set_43 : decode cX8_set 43 = .ok (.iload_n 2, 1) := by decide +kernel
theorem dX8_set_44 : decode cX8_set 44 = .ok (.iload_n 3, 1) := by decide +kernel
theorem dX8_set_45 : decode cX8_set 45 = .ok (.if_icmp .ne 6, 3) := by decide +kernel
theorem dX8_set_48 : decode cX8_set 48 = .ok (.bipush (-5), 2) := by decide +kernel
theorem dX8_set_50 : decode cX8_set 50 = .ok (.ireturn, 1) := by decide +kernel
theorem dX8_set_51 : decode cX8_set 51 = .ok (.aload_n 0, 1) := by decide +kernel
theorem dX8_set_52 : decode cX8_set 52 = .ok (.getfield 56, 3) := by decide +kernel
theorem dX8_set_55 : decode cX8_set 55 = .ok (.aload_n 0, 1) := by decide +kernel
theorem dX8_set_56 : decode cX8_set 56 = .ok (.getfield 19, 3) := by decide +kernel
theorem dX8_set_59 : decode cX8_set 59 = .ok (.invokevirtual 71, 3) := by decide +kernel
theorem dX8_set_62 : decode cX8_set 62 = .ok (.aload_n 0, 1) := by decide +kernel
theorem dX8_set_63 : decode cX8_set 63 = .ok (.getfield 19, 3) := by decide +kernel
theorem dX8_set_66 : decode cX8_set 66 = .ok (.getfield 123, 3) := by decide +kernel
theorem dX8_set_69 : decode cX8_set 69 = .ok (.iload_n 1, 1) := by decide +kernel
theorem dX8_set_70 : decode cX8_set 70 = .ok (.iload_n 2, 1) := by decide +kernel
theorem dX8_set_71 : decode cX8_set 71 = .ok (.iastore, 1) := by decide +kernel
theorem dX8_set_72 : decode cX8_set 72 = .ok (.iload_n 3, 1) := by decide +kernel
theorem dX8_set_73 : decode cX8_set 73 = .ok (.ireturn, 1) := by decide +kernel
set_option maxRecDepth 20000 in
theorem ggX8_bow_X8_isBow : GoodIn wsX8_bow wsX8_isBow := goodIn_r _ [6, 7, 8, 5, 9] (by decide +kernel) (by decide +kernel)
set_option maxRecDepth 20000 in
theorem gX8_bow_X8_isBow : GoodIn wsX8_bow (va_wsS RX8 126 yX8_isBow wsX8_isBow) := goodIn_app (goodIn_of _ (by decide +kernel)) ggX8_bow_X8_isBow
set_option maxRecDepth 20000 in
theorem ggX8_bow_X2_record : GoodIn wsX8_bow wsX2_record := goodIn_r _ [14, 15, 16, 17, 18, 19, 20, 21, 22, 23, 24, 25, 26, 27, 28, 29, 30, 31, 32, 33, 34, 35, 36, 37, 38, 39, 40, 41, 42, 43, 44, 45, 46, 47, 48, 49, 50, 51, 52, 53, 54, 55, 56, 84, 85, 86, 67, 68, 69, 70, 71, 72, 73, 74, 75, 76, 77, 78, 79, 80, 81, 82, 83] (by decide +kernel) (by decide +kernel)
set_option maxRecDepth 20000 in
theorem gX8_bow_X2_record : GoodIn wsX8_bow (wsV RX8 71 RX2 yX2_record wsX2_record) := goodIn_app (goodIn_of _ (by decide +kernel)) ggX8_bow_X2_record
set_option maxRecDepth 20000 in
theorem ggX8_bow_X4_append : GoodIn wsX8_bow wsX4_append := goodIn_r _ [55, 44, 56, 49, 50, 51, 79, 80, 81, 82, 83] (by decide +kernel) (by decide +kernel)
set_option maxRecDepth 20000 in
theorem gX8_bow_X4_append : GoodIn wsX8_bow (wsV RX8 138 RX4 yX4_append wsX4_append) := goodIn_app (goodIn_of _ (by decide +kernel)) ggX8_bow_X4_append
theorem dX8_bow_0 : decode cX8_bow 0 = .ok (.iload_n 1, 1) := by decide +kernel
theorem dX8_bow_1 : decode cX8_bow 1 = .ok (.iload_n 2, 1) := by decide +kernel
theorem dX8_bow_2 : decode cX8_bow 2 = .ok (.invokestatic 126, 3) := by decide +kernel
theorem dX8_bow_5 : decode cX8_bow 5 = .ok (.ifCond .ne 5, 3) := by decide +kernel
theorem dX8_bow_8 : decode cX8_bow 8 = .ok (.iconst (-1), 1) := by decide +kernel
theorem dX8_bow_9 : decode cX8_bow 9 = .ok (.ireturn, 1) := by decide +kernel
theorem dX8_bow_10 : decode cX8_bow 10 = .ok (.iload_n 3, 1) := by decide +kernel
theorem dX8_bow_11 : decode cX8_bow 11 = .ok (.iconst 1, 1) := by decide +kernel
theorem dX8_bow_12 : decode cX8_bow 12 = .ok (.if_icmp .lt 9, 3) := by decide +kernel
theorem dX8_bow_15 : decode cX8_bow 15 = .ok (.iload_n 3, 1) := by decide +kernel
theorem dX8_bow_16 : decode cX8_bow 16 = .ok (.bipush 20, 2) := by decide +kernel
theorem dX8_bow_18 : decode cX8_bow 18 = .ok (.if_icmp .le 6, 3) := by decide +kernel
theorem dX8_bow_21 : decode cX8_bow 21 = .ok (.bipush (-2), 2) := by decide +kernel
theorem dX8_bow_23 : decode cX8_bow 23 = .ok (.ireturn, 1) := by decide +kernel
theorem dX8_bow_24 : decode cX8_bow 24 = .ok (.aload_n 0, 1) := by decide +kernel
theorem dX8_bow_25 : decode cX8_bow 25 = .ok (.getfield 19, 3) := by decide +kernel
theorem dX8_bow_28 : decode cX8_bow 28 = .ok (.getfield 129, 3) := by decide +kernel
theorem dX8_bow_31 : decode cX8_bow 31 = .ok (.getfield 133, 3) := by decide +kernel
theorem dX8_bow_34 : decode cX8_bow 34 = .ok (.bipush 16, 2) := by decide +kernel
theorem dX8_bow_36 : decode cX8_bow 36 = .ok (.if_icmp .lt 6, 3) := by decide +kernel
theorem dX8_bow_39 : decode cX8_bow 39 = .ok (.bipush (-3), 2) := by decide +kernel
theorem dX8_bow_41 : decode cX8_bow 41 = .ok (.ireturn, 1) := by decide +kernel
theorem dX8_bow_42 : decode cX8_bow 42 = .ok (.aload_n 0, 1) := by decide +kernel
theorem dX8_bow_43 : decode cX8_bow 43 = .ok (.getfield 56, 3) := by decide +kernel
theorem dX8_bow_46 : decode cX8_bow 46 = .ok (.aload_n 0, 1) := by decide +kernel
theorem dX8_bow_47 : decode cX8_bow 47 = .ok (.getfield 19, 3) := by decide +kernel
theorem dX8_bow_50 : decode cX8_bow 50 = .ok (.invokevirtual 71, 3) := by decide +kernel
theorem dX8_bow_53 : decode cX8_bow 53 = .ok (.aload_n 0, 1) := by decide +kernel
theorem dX8_bow_54 : decode cX8_bow 54 = .ok (.getfield 19, 3) := by decide +kernel
theorem dX8_bow_57 : decode cX8_bow 57 = .ok (.getfield 129, 3) := by decide +kernel
theorem dX8_bow_60 : decode cX8_bow 60 = .ok (.iload_n 1, 1) := by decide +kernel
theorem dX8_bow_61 : decode cX8_bow 61 = .ok (.iload_n 2, 1) := by decide +kernel
theorem dX8_bow_62 : decode cX8_bow 62 = .ok (.iload_n 3, 1) := by decide +kernel
theorem dX8_bow_63 : decode cX8_bow 63 = .ok (.invokevirtual 138, 3) := by decide +kernel
theorem dX8_bow_66 : decode cX8_bow 66 = .ok (.aload_n 0, 1) := by decide +kernel
theorem dX8_bow_67 : decode cX8_bow 67 = .ok (.getfield 19, 3) := by decide +kernel
theorem dX8_bow_70 : decode cX8_bow 70 = .ok (.getfield 129, 3) := by decide +kernel
theorem dX8_bow_73 : decode cX8_bow 73 = .ok (.getfield 133, 3) := by decide +kernel
theorem dX8_bow_76 : decode cX8_bow 76 = .ok (.ireturn, 1) := by decide +kernel
set_option maxRecDepth 20000 in
theorem ggX8_bowAll_X6_read : GoodIn wsX8_bowAll wsX6_read := goodIn_r _ [8, 9, 10, 11, 12, 13, 7, 14, 15, 16, 17, 18, 19, 20, 21, 22, 23, 24, 25, 26, 27, 28, 29, 30, 31, 32, 33, 34, 35, 36, 37, 38, 39, 40, 110, 111, 112, 113, 105, 106, 107, 108, 109] (by decide +kernel) (by decide +kernel)
set_option maxRecDepth 20000 in
theorem gX8_bowAll_X6_read : GoodIn wsX8_bowAll (wsV RX8 142 RX6 yX6_read wsX6_read) := goodIn_app (goodIn_of _ (by decide +kernel)) ggX8_bowAll_X6_read
set_option maxRecDepth 20000 in
theorem ggX8_bowAll_X6_fault : GoodIn wsX8_bowAll wsX6_fault := goodIn_r _ [44, 9, 110, 111, 112, 113] (by decide +kernel) (by decide +kernel)
set_option maxRecDepth 20000 in
theorem gX8_bowAll_X6_fault : GoodIn wsX8_bowAll (wsV RX8 146 RX6 yX6_fault wsX6_fault) := goodIn_app (goodIn_of _ (by decide +kernel)) ggX8_bowAll_X6_fault
set_option maxRecDepth 20000 in
theorem ggX8_bowAll_X2_record : GoodIn wsX8_bowAll wsX2_record := goodIn_r _ [49, 50, 51, 52, 53, 54, 55, 56, 57, 58, 59, 60, 61, 62, 63, 64, 65, 66, 67, 68, 69, 70, 71, 72, 73, 74, 75, 76, 34, 77, 36, 78, 79, 80, 81, 38, 39, 40, 82, 32, 33, 35, 37, 114, 115, 116, 93, 94, 95, 96, 97, 98, 99, 100, 101, 102, 103, 104, 105, 106, 107, 108, 109] (by decide +kernel) (by decide +kernel)
set_option maxRecDepth 20000 in
theorem gX8_bowAll_X2_record : GoodIn wsX8_bowAll (wsV RX8 71 RX2 yX2_record wsX2_record) := goodIn_app (goodIn_of _ (by decide +kernel)) ggX8_bowAll_X2_record
set_option maxRecDepth 20000 in
theorem ggX8_bowAll_X4_appendAll : GoodIn wsX8_bowAll wsX4_appendAll := goodIn_r _ [81, 36, 38, 39, 40, 82, 32, 33, 34, 35, 37, 105, 106, 107, 108, 109] (by decide +kernel) (by decide +kernel)
set_option maxRecDepth 20000 in
theorem gX8_bowAll_X4_appendAll : GoodIn wsX8_bowAll (wsV RX8 150 RX4 yX4_appendAll wsX4_appendAll) := goodIn_app (goodIn_of _ (by decide +kernel)) ggX8_bowAll_X4_appendAll
theorem dX8_bowAll_0 : decode cX8_bowAll 0 = .ok (.aload_n 0, 1) := by decide +kernel
theorem dX8_bowAll_1 : decode cX8_bowAll 1 = .ok (.getfield 49, 3) := by decide +kernel
theorem dX8_bowAll_4 : decode cX8_bowAll 4 = .ok (.invokevirtual 142, 3) := by decide +kernel
theorem dX8_bowAll_7 : decode cX8_bowAll 7 = .ok (.ifCond .ne 14, 3) := by decide +kernel
theorem dX8_bowAll_10 : decode cX8_bowAll 10 = .ok (.bipush (-100), 2) := by decide +kernel
theorem dX8_bowAll_12 : decode cX8_bowAll 12 = .ok (.aload_n 0, 1) := by decide +kernel
theorem dX8_bowAll_13 : decode cX8_bowAll 13 = .ok (.getfield 49, 3) := by decide +kernel
theorem dX8_bowAll_16 : decode cX8_bowAll 16 = .ok (.invokevirtual 146, 3) := by decide +kernel
theorem dX8_bowAll_19 : decode cX8_bowAll 19 = .ok (.isub, 1) := by decide +kernel
theorem dX8_bowAll_20 : decode cX8_bowAll 20 = .ok (.ireturn, 1) := by decide +kernel
theorem dX8_bowAll_21 : decode cX8_bowAll 21 = .ok (.aload_n 0, 1) := by decide +kernel
theorem dX8_bowAll_22 : decode cX8_bowAll 22 = .ok (.getfield 19, 3) := by decide +kernel
theorem dX8_bowAll_25 : decode cX8_bowAll 25 = .ok (.getfield 129, 3) := by decide +kernel
theorem dX8_bowAll_28 : decode cX8_bowAll 28 = .ok (.getfield 133, 3) := by decide +kernel
theorem dX8_bowAll_31 : decode cX8_bowAll 31 = .ok (.aload_n 0, 1) := by decide +kernel
theorem dX8_bowAll_32 : decode cX8_bowAll 32 = .ok (.getfield 49, 3) := by decide +kernel
theorem dX8_bowAll_35 : decode cX8_bowAll 35 = .ok (.getfield 149, 3) := by decide +kernel
theorem dX8_bowAll_38 : decode cX8_bowAll 38 = .ok (.getfield 133, 3) := by decide +kernel
theorem dX8_bowAll_41 : decode cX8_bowAll 41 = .ok (.iadd, 1) := by decide +kernel
theorem dX8_bowAll_42 : decode cX8_bowAll 42 = .ok (.bipush 16, 2) := by decide +kernel
theorem dX8_bowAll_44 : decode cX8_bowAll 44 = .ok (.if_icmp .le 6, 3) := by decide +kernel
theorem dX8_bowAll_47 : decode cX8_bowAll 47 = .ok (.bipush (-3), 2) := by decide +kernel
theorem dX8_bowAll_49 : decode cX8_bowAll 49 = .ok (.ireturn, 1) := by decide +kernel
theorem dX8_bowAll_50 : decode cX8_bowAll 50 = .ok (.aload_n 0, 1) := by decide +kernel
theorem dX8_bowAll_51 : decode cX8_bowAll 51 = .ok (.getfield 56, 3) := by decide +kernel
theorem dX8_bowAll_54 : decode cX8_bowAll 54 = .ok (.aload_n 0, 1) := by decide +kernel
theorem dX8_bowAll_55 : decode cX8_bowAll 55 = .ok (.getfield 19, 3) := by decide +kernel
theorem dX8_bowAll_58 : decode cX8_bowAll 58 = .ok (.invokevirtual 71, 3) := by decide +kernel
theorem dX8_bowAll_61 : decode cX8_bowAll 61 = .ok (.aload_n 0, 1) := by decide +kernel
theorem dX8_bowAll_62 : decode cX8_bowAll 62 = .ok (.getfield 19, 3) := by decide +kernel
theorem dX8_bowAll_65 : decode cX8_bowAll 65 = .ok (.getfield 129, 3) := by decide +kernel
theorem dX8_bowAll_68 : decode cX8_bowAll 68 = .ok (.aload_n 0, 1) := by decide +kernel
theorem dX8_bowAll_69 : decode cX8_bowAll 69 = .ok (.getfield 49, 3) := by decide +kernel
theorem dX8_bowAll_72 : decode cX8_bowAll 72 = .ok (.getfield 149, 3) := by decide +kernel
theorem dX8_bowAll_75 : decode cX8_bowAll 75 = .ok (.invokevirtual 150, 3) := by decide +kernel
theorem dX8_bowAll_78 : decode cX8_bowAll 78 = .ok (.aload_n 0, 1) := by decide +kernel
theorem dX8_bowAll_79 : decode cX8_bowAll 79 = .ok (.getfield 49, 3) := by decide +kernel
theorem dX8_bowAll_82 : decode cX8_bowAll 82 = .ok (.getfield 149, 3) := by decide +kernel
theorem dX8_bowAll_85 : decode cX8_bowAll 85 = .ok (.getfield 133, 3) := by decide +kernel
theorem dX8_bowAll_88 : decode cX8_bowAll 88 = .ok (.ireturn, 1) := by decide +kernel
set_option maxRecDepth 20000 in
theorem ggX8_strike_X4_sizeAt : GoodIn wsX8_strike wsX4_sizeAt := goodIn_r _ [7, 8, 9, 79, 80, 81, 82, 83] (by decide +kernel) (by decide +kernel)
set_option maxRecDepth 20000 in
theorem gX8_strike_X4_sizeAt : GoodIn wsX8_strike (wsV RX8 154 RX4 yX4_sizeAt wsX4_sizeAt) := goodIn_app (goodIn_of _ (by decide +kernel)) ggX8_strike_X4_sizeAt
set_option maxRecDepth 20000 in
theorem ggX8_strike_X2_record : GoodIn wsX8_strike wsX2_record := goodIn_r _ [14, 15, 16, 17, 18, 19, 20, 21, 22, 23, 24, 25, 26, 27, 28, 29, 30, 31, 32, 33, 34, 35, 36, 37, 38, 39, 40, 41, 6, 42, 8, 43, 44, 45, 46, 9, 47, 48, 49, 50, 51, 52, 53, 84, 85, 86, 67, 68, 69, 70, 71, 72, 73, 74, 75, 76, 77, 78, 79, 80, 81, 82, 83] (by decide +kernel) (by decide +kernel)
set_option maxRecDepth 20000 in
theorem gX8_strike_X2_record : GoodIn wsX8_strike (wsV RX8 71 RX2 yX2_record wsX2_record) := goodIn_app (goodIn_of _ (by decide +kernel)) ggX8_strike_X2_record
set_option maxRecDepth 20000 in
theorem ggX8_strike_X4_dropSide : GoodIn wsX8_strike wsX4_dropSide := goodIn_r _ [57, 8, 9, 47, 48, 49, 50, 51, 6, 52, 53, 79, 80, 81, 82, 83] (by decide +kernel) (by decide +kernel)
set_option maxRecDepth 20000 in
theorem gX8_strike_X4_dropSide : GoodIn wsX8_strike (wsV RX8 158 RX4 yX4_dropSide wsX4_dropSide) := goodIn_app (goodIn_of _ (by decide +kernel)) ggX8_strike_X4_dropSide
theorem dX8_strike_0 : decode cX8_strike 0 = .ok (.iload_n 1, 1) := by decide +kernel
theorem dX8_strike_1 : decode cX8_strike 1 = .ok (.ifCond .lt 8, 3) := by decide +kernel
theorem dX8_strike_4 : decode cX8_strike 4 = .ok (.iload_n 1, 1) := by decide +kernel
theorem dX8_strike_5 : decode cX8_strike 5 = .ok (.iconst 4, 1) := by decide +kernel
theorem dX8_strike_6 : decode cX8_strike 6 = .ok (.if_icmp .lt 5, 3) := by decide +kernel
theorem dX8_strike_9 : decode cX8_strike 9 = .ok (.iconst (-1), 1) := by decide +kernel
theorem dX8_strike_10 : decode cX8_strike 10 = .ok (.ireturn, 1) := by decide +kernel
theorem dX8_strike_11 : decode cX8_strike 11 = .ok (.aload_n 0, 1) := by decide +kernel
theorem dX8_strike_12 : decode cX8_strike 12 = .ok (.getfield 19, 3) := by decide +kernel
theorem dX8_strike_15 : decode cX8_strike 15 = .ok (.getfield 129, 3) := by decide +kernel
theorem dX8_strike_18 : decode cX8_strike 18 = .ok (.iload_n 1, 1) := by decide +kernel
theorem dX8_strike_19 : decode cX8_strike 19 = .ok (.invokevirtual 154, 3) := by decide +kernel
theorem dX8_strike_22 : decode cX8_strike 22 = .ok (.ifCond .ne 6, 3) := by decide +kernel
theorem dX8_strike_25 : decode cX8_strike 25 = .ok (.bipush (-5), 2) := by decide +kernel
theorem dX8_strike_27 : decode cX8_strike 27 = .ok (.ireturn, 1) := by decide +kernel
theorem dX8_strike_28 : decode cX8_strike 28 = .ok (.aload_n 0, 1) := by decide +kernel
theorem dX8_strike_29 : decode cX8_strike 29 = .ok (.getfield 56, 3) := by decide +kernel
theorem dX8_strike_32 : decode cX8_strike 32 = .ok (.aload_n 0, 1) := by decide +kernel
theorem dX8_strike_33 : decode cX8_strike 33 = .ok (.getfield 19, 3) := by decide +kernel
theorem dX8_strike_36 : decode cX8_strike 36 = .ok (.invokevirtual 71, 3) := by decide +kernel
theorem dX8_strike_39 : decode cX8_strike 39 = .ok (.aload_n 0, 1) := by decide +kernel
theorem dX8_strike_40 : decode cX8_strike 40 = .ok (.getfield 19, 3) := by decide +kernel
theorem dX8_strike_43 : decode cX8_strike 43 = .ok (.getfield 129, 3) := by decide +kernel
theorem dX8_strike_46 : decode cX8_strike 46 = .ok (.iload_n 1, 1) := by decide +kernel
theorem dX8_strike_47 : decode cX8_strike 47 = .ok (.invokevirtual 158, 3) := by decide +kernel
theorem dX8_strike_50 : decode cX8_strike 50 = .ok (.ireturn, 1) := by decide +kernel
set_option maxRecDepth 20000 in
theorem ggX8_play_X2_record : GoodIn wsX8_play wsX2_record := goodIn_r _ [11, 12, 13, 14, 15, 16, 17, 18, 19, 20, 21, 22, 23, 24, 25, 26, 27, 28, 29, 30, 31, 32, 33, 34, 35, 36, 37, 38, 39, 40, 41, 42, 43, 44, 45, 46, 47, 48, 49, 50, 51, 52, 53, 166, 167, 168, 149, 150, 151, 152, 153, 154, 155, 156, 157, 158, 159, 160, 161, 162, 163, 164, 165] (by decide +kernel) (by decide +kernel)
set_option maxRecDepth 20000 in
theorem gX8_play_X2_record : GoodIn wsX8_play (wsV RX8 71 RX2 yX2_record wsX2_record) := goodIn_app (goodIn_of _ (by decide +kernel)) ggX8_play_X2_record
set_option maxRecDepth 20000 in
theorem ggX8_play_X8_playBowing : GoodIn wsX8_play wsX8_playBowing := goodIn_r _ [58, 59, 1, 60, 61, 62, 63, 64, 65, 66, 67, 68, 69, 70, 71, 72, 73, 74, 75, 76, 77, 78, 79, 80, 81, 82, 83, 84, 85, 86, 4, 87, 88, 57, 89, 90, 91, 92, 93, 94, 95, 96, 97, 98, 99, 100, 101, 102, 103, 104, 105, 106, 107, 108, 109, 110, 111, 112, 113, 114, 115, 116, 117, 118, 119, 120, 121, 122, 123, 124, 125, 126, 127, 128, 129, 130, 131, 132, 140, 141, 142, 143, 144, 145, 146, 147, 148, 149, 150, 151, 152, 153, 154, 155, 156, 157, 158, 159, 160, 161, 162, 163, 164, 165, 169, 170, 171, 172, 173, 174, 175, 176, 177, 178, 179, 180, 181, 182, 183] (by decide +kernel) (by decide +kernel)
set_option maxRecDepth 20000 in
theorem gX8_play_X8_playBowing : GoodIn wsX8_play (wsV RX8 166 RX8 yX8_playBowing wsX8_playBowing) := goodIn_app (goodIn_of _ (by decide +kernel)) ggX8_play_X8_playBowing
set_option maxRecDepth 20000 in
theorem ggX8_play_X4_dropFirst : GoodIn wsX8_play wsX4_dropFirst := goodIn_r _ [136, 41, 137, 138, 4, 139, 46, 47, 48, 49, 50, 51, 39, 52, 53, 161, 162, 163, 164, 165] (by decide +kernel) (by decide +kernel)
set_option maxRecDepth 20000 in
theorem gX8_play_X4_dropFirst : GoodIn wsX8_play (wsV RX8 169 RX4 yX4_dropFirst wsX4_dropFirst) := goodIn_app (goodIn_of _ (by decide +kernel)) ggX8_play_X4_dropFirst
theorem dX8_play_0 : decode cX8_play 0 = .ok (.iload_n 1, 1) := by decide +kernel
theorem dX8_play_1 : decode cX8_play 1 = .ok (.iconst 1, 1) := by decide +kernel
theorem dX8_play_2 : decode cX8_play 2 = .ok (.if_icmp .lt 9, 3) := by decide +kernel
theorem dX8_play_5 : decode cX8_play 5 = .ok (.iload_n 1, 1) := by decide +kernel
theorem dX8_play_6 : decode cX8_play 6 = .ok (.bipush 16, 2) := by decide +kernel
theorem dX8_play_8 : decode cX8_play 8 = .ok (.if_icmp .le 6, 3) := by decide +kernel
theorem dX8_play_11 : decode cX8_play 11 = .ok (.bipush (-2), 2) := by decide +kernel
theorem dX8_play_13 : decode cX8_play 13 = .ok (.ireturn, 1) := by decide +kernel
theorem dX8_play_14 : decode cX8_play 14 = .ok (.iload_n 1, 1) := by decide +kernel
theorem dX8_play_15 : decode cX8_play 15 = .ok (.aload_n 0, 1) := by decide +kernel
theorem dX8_play_16 : decode cX8_play 16 = .ok (.getfield 19, 3) := by decide +kernel
theorem dX8_play_19 : decode cX8_play 19 = .ok (.getfield 129, 3) := by decide +kernel
theorem dX8_play_22 : decode cX8_play 22 = .ok (.getfield 133, 3) := by decide +kernel
theorem dX8_play_25 : decode cX8_play 25 = .ok (.invokestatic 161, 3) := by decide +kernel
theorem dX8_play_28 : decode cX8_play 28 = .ok (.istore_n 2, 1) := by decide +kernel
theorem dX8_play_29 : decode cX8_play 29 = .ok (.iload_n 2, 1) := by decide +kernel
theorem dX8_play_30 : decode cX8_play 30 = .ok (.ifCond .ne 6, 3) := by decide +kernel
theorem dX8_play_33 : decode cX8_play 33 = .ok (.bipush (-5), 2) := by decide +kernel
theorem dX8_play_35 : decode cX8_play 35 = .ok (.ireturn, 1) := by decide +kernel
theorem dX8_play_36 : decode cX8_play 36 = .ok (.aload_n 0, 1) := by decide +kernel
theorem dX8_play_37 : decode cX8_play 37 = .ok (.getfield 56, 3) := by decide +kernel
theorem dX8_play_40 : decode cX8_play 40 = .ok (.aload_n 0, 1) := by decide +kernel
theorem dX8_play_41 : decode cX8_play 41 = .ok (.getfield 19, 3) := by decide +kernel
theorem dX8_play_44 : decode cX8_play 44 = .ok (.invokevirtual 71, 3) := by decide +kernel
theorem dX8_play_47 : decode cX8_play 47 = .ok (.iconst 0, 1) := by decide +kernel
theorem dX8_play_48 : decode cX8_play 48 = .ok (.istore_n 3, 1) := by decide +kernel
theorem dX8_play_49 : decode cX8_play 49 = .ok (.iconst 0, 1) := by decide +kernel
theorem dX8_play_50 : decode cX8_play 50 = .ok (.istore 4, 2) := by decide +kernel
theorem dX8_play_52 : decode cX8_play 52 = .ok (.iload 4, 2) := by decide +kernel
theorem dX8_play_54 : decode cX8_play 54 = .ok (.iload_n 2, 1) := by decide +kernel
theorem dX8_play_55 : decode cX8_play 55 = .ok (.if_icmp .ge 21, 3) := by decide +kernel
theorem dX8_play_58 : decode cX8_play 58 = .ok (.aload_n 0, 1) := by decide +kernel
theorem dX8_play_59 : decode cX8_play 59 = .ok (.iload 4, 2) := by decide +kernel
theorem dX8_play_61 : decode cX8_play 61 = .ok (.invokevirtual 166, 3) := by decide +kernel
theorem dX8_play_64 : decode cX8_play 64 = .ok (.ifCond .eq 6, 3) := by decide +kernel
theorem dX8_play_67 : decode cX8_play 67 = .ok (.iinc 3 1, 3) := by decide +kernel
theorem dX8_play_70 : decode cX8_play 70 = .ok (.iinc 4 1, 3) := by decide +kernel
theorem dX8_play_73 : decode cX8_play 73 = .ok (.goto (-21), 3) := by decide +kernel
theorem dX8_play_76 : decode cX8_play 76 = .ok (.aload_n 0, 1) := by decide +kernel
theorem dX8_play_77 : decode cX8_play 77 = .ok (.getfield 19, 3) := by decide +kernel
theorem dX8_play_80 : decode cX8_play 80 = .ok (.getfield 129, 3) := by decide +kernel
theorem dX8_play_83 : decode cX8_play 83 = .ok (.iload_n 2, 1) := by decide +kernel
theorem dX8_play_84 : decode cX8_play 84 = .ok (.invokevirtual 169, 3) := by decide +kernel
theorem dX8_play_87 : decode cX8_play 87 = .ok (.iload_n 3, 1) := by decide +kernel
theorem dX8_play_88 : decode cX8_play 88 = .ok (.ireturn, 1) := by decide +kernel
set_option maxRecDepth 20000 in
theorem ggX8_type_X6_append : GoodIn wsX8_type wsX6_append := goodIn_r _ [6, 7, 8, 18, 19, 20, 21] (by decide +kernel) (by decide +kernel)
set_option maxRecDepth 20000 in
theorem gX8_type_X6_append : GoodIn wsX8_type (wsV RX8 175 RX6 yX6_append wsX6_append) := goodIn_app (goodIn_of _ (by decide +kernel)) ggX8_type_X6_append
theorem dX8_type_0 : decode cX8_type 0 = .ok (.aload_n 0, 1) := by decide +kernel
theorem dX8_type_1 : decode cX8_type 1 = .ok (.getfield 49, 3) := by decide +kernel
theorem dX8_type_4 : decode cX8_type 4 = .ok (.getfield 172, 3) := by decide +kernel
theorem dX8_type_7 : decode cX8_type 7 = .ok (.bipush 60, 2) := by decide +kernel
theorem dX8_type_9 : decode cX8_type 9 = .ok (.if_icmp .lt 6, 3) := by decide +kernel
theorem dX8_type_12 : decode cX8_type 12 = .ok (.bipush (-3), 2) := by decide +kernel
theorem dX8_type_14 : decode cX8_type 14 = .ok (.ireturn, 1) := by decide +kernel
theorem dX8_type_15 : decode cX8_type 15 = .ok (.aload_n 0, 1) := by decide +kernel
theorem dX8_type_16 : decode cX8_type 16 = .ok (.getfield 49, 3) := by decide +kernel
theorem dX8_type_19 : decode cX8_type 19 = .ok (.iload_n 1, 1) := by decide +kernel
theorem dX8_type_20 : decode cX8_type 20 = .ok (.invokevirtual 175, 3) := by decide +kernel
theorem dX8_type_23 : decode cX8_type 23 = .ok (.aload_n 0, 1) := by decide +kernel
theorem dX8_type_24 : decode cX8_type 24 = .ok (.getfield 49, 3) := by decide +kernel
theorem dX8_type_27 : decode cX8_type 27 = .ok (.getfield 172, 3) := by decide +kernel
theorem dX8_type_30 : decode cX8_type 30 = .ok (.ireturn, 1) := by decide +kernel
theorem dX8_clearText_0 : decode cX8_clearText 0 = .ok (.aload_n 0, 1) := by decide +kernel
theorem dX8_clearText_1 : decode cX8_clearText 1 = .ok (.getfield 49, 3) := by decide +kernel
theorem dX8_clearText_4 : decode cX8_clearText 4 = .ok (.getfield 172, 3) := by decide +kernel
theorem dX8_clearText_7 : decode cX8_clearText 7 = .ok (.istore_n 1, 1) := by decide +kernel
theorem dX8_clearText_8 : decode cX8_clearText 8 = .ok (.aload_n 0, 1) := by decide +kernel
theorem dX8_clearText_9 : decode cX8_clearText 9 = .ok (.getfield 49, 3) := by decide +kernel
theorem dX8_clearText_12 : decode cX8_clearText 12 = .ok (.iconst 0, 1) := by decide +kernel
theorem dX8_clearText_13 : decode cX8_clearText 13 = .ok (.putfield 172, 3) := by decide +kernel
theorem dX8_clearText_16 : decode cX8_clearText 16 = .ok (.iload_n 1, 1) := by decide +kernel
theorem dX8_clearText_17 : decode cX8_clearText 17 = .ok (.ireturn, 1) := by decide +kernel
set_option maxRecDepth 20000 in
theorem ggX8_undo_X2_takeLatest : GoodIn wsX8_undo wsX2_takeLatest := goodIn_r _ [7, 8, 9, 10, 11, 12, 13, 14, 15, 16, 17, 18, 19, 20, 21, 22, 23, 24, 25, 26, 27, 28, 29, 30, 31, 32, 33, 34, 35, 36, 37, 38, 39, 40, 41, 42, 43, 44, 45, 46, 47, 48, 49, 59, 60, 61, 62, 63, 64, 65, 66, 67, 68, 69, 70, 71, 72, 73, 74, 75, 76, 77, 78] (by decide +kernel) (by decide +kernel)
set_option maxRecDepth 20000 in
theorem gX8_undo_X2_takeLatest : GoodIn wsX8_undo (wsV RX8 181 RX2 yX2_takeLatest wsX2_takeLatest) := goodIn_app (goodIn_of _ (by decide +kernel)) ggX8_undo_X2_takeLatest
