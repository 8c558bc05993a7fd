theorem dX9_strew_0 : decode cX9_strew 0 = .ok (.iload_n 1, 1) := by decide +kernel
theorem dX9_strew_1 : decode cX9_strew 1 = .ok (.iload_n 2, 1) := by decide +kernel
theorem dX9_strew_2 : decode cX9_strew 2 = .ok (.invokestatic 80, 3) := by decide +kernel
theorem dX9_strew_5 : decode cX9_strew 5 = .ok (.ifCond .ne 5, 3) := by decide +kernel
theorem dX9_strew_8 : decode cX9_strew 8 = .ok (.iconst (-1), 1) := by decide +kernel
theorem dX9_strew_9 : decode cX9_strew 9 = .ok (.ireturn, 1) := by decide +kernel
theorem dX9_strew_10 : decode cX9_strew 10 = .ok (.iload_n 3, 1) := by decide +kernel
theorem dX9_strew_11 : decode cX9_strew 11 = .ok (.iconst 1, 1) := by decide +kernel
theorem dX9_strew_12 : decode cX9_strew 12 = .ok (.bipush 99, 2) := by decide +kernel
theorem dX9_strew_14 : decode cX9_strew 14 = .ok (.invokestatic 55, 3) := by decide +kernel
theorem dX9_strew_17 : decode cX9_strew 17 = .ok (.ifCond .ne 6, 3) := by decide +kernel
theorem dX9_strew_20 : decode cX9_strew 20 = .ok (.bipush (-2), 2) := by decide +kernel
theorem dX9_strew_22 : decode cX9_strew 22 = .ok (.ireturn, 1) := by decide +kernel
theorem dX9_strew_23 : decode cX9_strew 23 = .ok (.aload_n 0, 1) := by decide +kernel
theorem dX9_strew_24 : decode cX9_strew 24 = .ok (.invokevirtual 89, 3) := by decide +kernel
theorem dX9_strew_27 : decode cX9_strew 27 = .ok (.aload_n 0, 1) := by decide +kernel
theorem dX9_strew_28 : decode cX9_strew 28 = .ok (.getfield 22, 3) := by decide +kernel
theorem dX9_strew_31 : decode cX9_strew 31 = .ok (.iconst 0, 1) := by decide +kernel
theorem dX9_strew_32 : decode cX9_strew 32 = .ok (.bipush 12, 2) := by decide +kernel
theorem dX9_strew_34 : decode cX9_strew 34 = .ok (.iload_n 2, 1) := by decide +kernel
theorem dX9_strew_35 : decode cX9_strew 35 = .ok (.imul, 1) := by decide +kernel
theorem dX9_strew_36 : decode cX9_strew 36 = .ok (.iadd, 1) := by decide +kernel
theorem dX9_strew_37 : decode cX9_strew 37 = .ok (.iload_n 1, 1) := by decide +kernel
theorem dX9_strew_38 : decode cX9_strew 38 = .ok (.iadd, 1) := by decide +kernel
theorem dX9_strew_39 : decode cX9_strew 39 = .ok (.dup2, 1) := by decide +kernel
theorem dX9_strew_40 : decode cX9_strew 40 = .ok (.iaload, 1) := by decide +kernel
theorem dX9_strew_41 : decode cX9_strew 41 = .ok (.iload_n 3, 1) := by decide +kernel
theorem dX9_strew_42 : decode cX9_strew 42 = .ok (.iadd, 1) := by decide +kernel
theorem dX9_strew_43 : decode cX9_strew 43 = .ok (.iastore, 1) := by decide +kernel
theorem dX9_strew_44 : decode cX9_strew 44 = .ok (.aload_n 0, 1) := by decide +kernel
theorem dX9_strew_45 : decode cX9_strew 45 = .ok (.getfield 22, 3) := by decide +kernel
theorem dX9_strew_48 : decode cX9_strew 48 = .ok (.sipush 148, 3) := by decide +kernel
theorem dX9_strew_51 : decode cX9_strew 51 = .ok (.dup2, 1) := by decide +kernel
theorem dX9_strew_52 : decode cX9_strew 52 = .ok (.iaload, 1) := by decide +kernel
theorem dX9_strew_53 : decode cX9_strew 53 = .ok (.iload_n 3, 1) := by decide +kernel
theorem dX9_strew_54 : decode cX9_strew 54 = .ok (.iadd, 1) := by decide +kernel
theorem dX9_strew_55 : decode cX9_strew 55 = .ok (.iastore, 1) := by decide +kernel
theorem dX9_strew_56 : decode cX9_strew 56 = .ok (.aload_n 0, 1) := by decide +kernel
theorem dX9_strew_57 : decode cX9_strew 57 = .ok (.getfield 22, 3) := by decide +kernel
theorem dX9_strew_60 : decode cX9_strew 60 = .ok (.iconst 0, 1) := by decide +kernel
theorem dX9_strew_61 : decode cX9_strew 61 = .ok (.bipush 12, 2) := by decide +kernel
theorem dX9_strew_63 : decode cX9_strew 63 = .ok (.iload_n 2, 1) := by decide +kernel
theorem dX9_strew_64 : decode cX9_strew 64 = .ok (.imul, 1) := by decide +kernel
theorem dX9_strew_65 : decode cX9_strew 65 = .ok (.iadd, 1) := by decide +kernel
theorem dX9_strew_66 : decode cX9_strew 66 = .ok (.iload_n 1, 1) := by decide +kernel
theorem dX9_strew_67 : decode cX9_strew 67 = .ok (.iadd, 1) := by decide +kernel
theorem dX9_strew_68 : decode cX9_strew 68 = .ok (.iaload, 1) := by decide +kernel
theorem dX9_strew_69 : decode cX9_strew 69 = .ok (.ireturn, 1) := by decide +kernel
set_option maxRecDepth 20000 in
theorem ggX9_sweep_X9_in : GoodIn wsX9_sweep wsX9_in := goodIn_r _ [5] (by decide +kernel) (by decide +kernel)
set_option maxRecDepth 20000 in
theorem gX9_sweep_X9_in : GoodIn wsX9_sweep (va_wsS RX9 55 yX9_in wsX9_in) := goodIn_app (goodIn_of _ (by decide +kernel)) ggX9_sweep_X9_in
set_option maxRecDepth 20000 in
theorem ggX9_sweep_X9_know : GoodIn wsX9_sweep wsX9_know := goodIn_r _ [9, 10, 11, 1, 16, 17, 18, 19, 20, 21, 22, 23, 24, 25, 26, 27, 28, 29, 30, 31] (by decide +kernel) (by decide +kernel)
set_option maxRecDepth 20000 in
theorem gX9_sweep_X9_know : GoodIn wsX9_sweep (wsV RX9 89 RX9 yX9_know wsX9_know) := goodIn_app (goodIn_of _ (by decide +kernel)) ggX9_sweep_X9_know
set_option maxRecDepth 20000 in
theorem ggX9_sweep_X9_allGrains : GoodIn wsX9_sweep wsX9_allGrains := goodIn_r _ [15, 1, 16, 17, 18, 19, 20, 21, 22, 23, 24, 25, 26, 27, 28, 29, 30, 31] (by decide +kernel) (by decide +kernel)
set_option maxRecDepth 20000 in
theorem gX9_sweep_X9_allGrains : GoodIn wsX9_sweep (wsV RX9 92 RX9 yX9_allGrains wsX9_allGrains) := goodIn_app (goodIn_of _ (by decide +kernel)) ggX9_sweep_X9_allGrains
theorem dX9_sweep_0 : decode cX9_sweep 0 = .ok (.iload_n 1, 1) := by decide +kernel
theorem dX9_sweep_1 : decode cX9_sweep 1 = .ok (.iconst 0, 1) := by decide +kernel
theorem dX9_sweep_2 : decode cX9_sweep 2 = .ok (.bipush 99, 2) := by decide +kernel
theorem dX9_sweep_4 : decode cX9_sweep 4 = .ok (.invokestatic 55, 3) := by decide +kernel
theorem dX9_sweep_7 : decode cX9_sweep 7 = .ok (.ifCond .ne 6, 3) := by decide +kernel
theorem dX9_sweep_10 : decode cX9_sweep 10 = .ok (.bipush (-2), 2) := by decide +kernel
theorem dX9_sweep_12 : decode cX9_sweep 12 = .ok (.ireturn, 1) := by decide +kernel
theorem dX9_sweep_13 : decode cX9_sweep 13 = .ok (.aload_n 0, 1) := by decide +kernel
theorem dX9_sweep_14 : decode cX9_sweep 14 = .ok (.invokevirtual 89, 3) := by decide +kernel
theorem dX9_sweep_17 : decode cX9_sweep 17 = .ok (.aload_n 0, 1) := by decide +kernel
theorem dX9_sweep_18 : decode cX9_sweep 18 = .ok (.invokevirtual 92, 3) := by decide +kernel
theorem dX9_sweep_21 : decode cX9_sweep 21 = .ok (.istore_n 2, 1) := by decide +kernel
theorem dX9_sweep_22 : decode cX9_sweep 22 = .ok (.aload_n 0, 1) := by decide +kernel
theorem dX9_sweep_23 : decode cX9_sweep 23 = .ok (.getfield 22, 3) := by decide +kernel
theorem dX9_sweep_26 : decode cX9_sweep 26 = .ok (.sipush 149, 3) := by decide +kernel
theorem dX9_sweep_29 : decode cX9_sweep 29 = .ok (.dup2, 1) := by decide +kernel
theorem dX9_sweep_30 : decode cX9_sweep 30 = .ok (.iaload, 1) := by decide +kernel
theorem dX9_sweep_31 : decode cX9_sweep 31 = .ok (.iload_n 2, 1) := by decide +kernel
theorem dX9_sweep_32 : decode cX9_sweep 32 = .ok (.iadd, 1) := by decide +kernel
theorem dX9_sweep_33 : decode cX9_sweep 33 = .ok (.iastore, 1) := by decide +kernel
theorem dX9_sweep_34 : decode cX9_sweep 34 = .ok (.aload_n 0, 1) := by decide +kernel
theorem dX9_sweep_35 : decode cX9_sweep 35 = .ok (.getfield 22, 3) := by decide +kernel
theorem dX9_sweep_38 : decode cX9_sweep 38 = .ok (.sipush 148, 3) := by decide +kernel
theorem dX9_sweep_41 : decode cX9_sweep 41 = .ok (.dup2, 1) := by decide +kernel
theorem dX9_sweep_42 : decode cX9_sweep 42 = .ok (.iaload, 1) := by decide +kernel
theorem dX9_sweep_43 : decode cX9_sweep 43 = .ok (.sipush 144, 3) := by decide +kernel
theorem dX9_sweep_46 : decode cX9_sweep 46 = .ok (.iload_n 1, 1) := by decide +kernel
theorem dX9_sweep_47 : decode cX9_sweep 47 = .ok (.imul, 1) := by decide +kernel
theorem dX9_sweep_48 : decode cX9_sweep 48 = .ok (.iadd, 1) := by decide +kernel
theorem dX9_sweep_49 : decode cX9_sweep 49 = .ok (.iastore, 1) := by decide +kernel
theorem dX9_sweep_50 : decode cX9_sweep 50 = .ok (.iconst 0, 1) := by decide +kernel
theorem dX9_sweep_51 : decode cX9_sweep 51 = .ok (.istore_n 3, 1) := by decide +kernel
theorem dX9_sweep_52 : decode cX9_sweep 52 = .ok (.iload_n 3, 1) := by decide +kernel
theorem dX9_sweep_53 : decode cX9_sweep 53 = .ok (.sipush 144, 3) := by decide +kernel
theorem dX9_sweep_56 : decode cX9_sweep 56 = .ok (.if_icmp .ge 18, 3) := by decide +kernel
theorem dX9_sweep_59 : decode cX9_sweep 59 = .ok (.aload_n 0, 1) := by decide +kernel
theorem dX9_sweep_60 : decode cX9_sweep 60 = .ok (.getfield 22, 3) := by decide +kernel
theorem dX9_sweep_63 : decode cX9_sweep 63 = .ok (.iconst 0, 1) := by decide +kernel
theorem dX9_sweep_64 : decode cX9_sweep 64 = .ok (.iload_n 3, 1) := by decide +kernel
theorem dX9_sweep_65 : decode cX9_sweep 65 = .ok (.iadd, 1) := by decide +kernel
theorem dX9_sweep_66 : decode cX9_sweep 66 = .ok (.iload_n 1, 1) := by decide +kernel
theorem dX9_sweep_67 : decode cX9_sweep 67 = .ok (.iastore, 1) := by decide +kernel
theorem dX9_sweep_68 : decode cX9_sweep 68 = .ok (.iinc 3 1, 3) := by decide +kernel
theorem dX9_sweep_71 : decode cX9_sweep 71 = .ok (.goto (-19), 3) := by decide +kernel
theorem dX9_sweep_74 : decode cX9_sweep 74 = .ok (.iload_n 2, 1) := by decide +kernel
theorem dX9_sweep_75 : decode cX9_sweep 75 = .ok (.ireturn, 1) := by decide +kernel
theorem dX9_clampOn_0 : decode cX9_clampOn 0 = .ok (.iconst 0, 1) := by decide +kernel
theorem dX9_clampOn_1 : decode cX9_clampOn 1 = .ok (.istore_n 2, 1) := by decide +kernel
theorem dX9_clampOn_2 : decode cX9_clampOn 2 = .ok (.iload_n 2, 1) := by decide +kernel
theorem dX9_clampOn_3 : decode cX9_clampOn 3 = .ok (.aload_n 0, 1) := by decide +kernel
theorem dX9_clampOn_4 : decode cX9_clampOn 4 = .ok (.getfield 22, 3) := by decide +kernel
theorem dX9_clampOn_7 : decode cX9_clampOn 7 = .ok (.sipush 154, 3) := by decide +kernel
theorem dX9_clampOn_10 : decode cX9_clampOn 10 = .ok (.iaload, 1) := by decide +kernel
theorem dX9_clampOn_11 : decode cX9_clampOn 11 = .ok (.if_icmp .ge 25, 3) := by decide +kernel
theorem dX9_clampOn_14 : decode cX9_clampOn 14 = .ok (.aload_n 0, 1) := by decide +kernel
theorem dX9_clampOn_15 : decode cX9_clampOn 15 = .ok (.getfield 22, 3) := by decide +kernel
theorem dX9_clampOn_18 : decode cX9_clampOn 18 = .ok (.sipush 155, 3) := by decide +kernel
theorem dX9_clampOn_21 : decode cX9_clampOn 21 = .ok (.iload_n 2, 1) := by decide +kernel
theorem dX9_clampOn_22 : decode cX9_clampOn 22 = .ok (.iadd, 1) := by decide +kernel
theorem dX9_clampOn_23 : decode cX9_clampOn 23 = .ok (.iaload, 1) := by decide +kernel
theorem dX9_clampOn_24 : decode cX9_clampOn 24 = .ok (.iload_n 1, 1) := by decide +kernel
theorem dX9_clampOn_25 : decode cX9_clampOn 25 = .ok (.if_icmp .ne 5, 3) := by decide +kernel
theorem dX9_clampOn_28 : decode cX9_clampOn 28 = .ok (.iload_n 2, 1) := by decide +kernel
theorem dX9_clampOn_29 : decode cX9_clampOn 29 = .ok (.ireturn, 1) := by decide +kernel
theorem dX9_clampOn_30 : decode cX9_clampOn 30 = .ok (.iinc 2 1, 3) := by decide +kernel
theorem dX9_clampOn_33 : decode cX9_clampOn 33 = .ok (.goto (-31), 3) := by decide +kernel
theorem dX9_clampOn_36 : decode cX9_clampOn 36 = .ok (.bipush (-5), 2) := by decide +kernel
theorem dX9_clampOn_38 : decode cX9_clampOn 38 = .ok (.ireturn, 1) := by decide +kernel
set_option maxRecDepth 20000 in
theorem ggX9_clamp_X9_isOn : GoodIn wsX9_clamp wsX9_isOn := goodIn_r _ [5, 6, 7, 4, 8] (by decide +kernel) (by decide +kernel)
set_option maxRecDepth 20000 in
theorem gX9_clamp_X9_isOn : GoodIn wsX9_clamp (va_wsS RX9 80 yX9_isOn wsX9_isOn) := goodIn_app (goodIn_of _ (by decide +kernel)) ggX9_clamp_X9_isOn
set_option maxRecDepth 20000 in
theorem ggX9_clamp_X9_clampOn : GoodIn wsX9_clamp wsX9_clampOn := goodIn_r _ [12, 1, 19, 20, 21, 22, 23, 24, 25, 26, 27, 28, 29, 30, 31, 32, 33, 34] (by decide +kernel) (by decide +kernel)
set_option maxRecDepth 20000 in
theorem gX9_clamp_X9_clampOn : GoodIn wsX9_clamp (wsV RX9 96 RX9 yX9_clampOn wsX9_clampOn) := goodIn_app (goodIn_of _ (by decide +kernel)) ggX9_clamp_X9_clampOn
set_option maxRecDepth 20000 in
theorem ggX9_clamp_X9_know : GoodIn wsX9_clamp wsX9_know := goodIn_r _ [16, 17, 18, 1, 19, 20, 21, 22, 23, 24, 25, 26, 27, 28, 29, 30, 31, 32, 33, 34] (by decide +kernel) (by decide +kernel)
set_option maxRecDepth 20000 in
theorem gX9_clamp_X9_know : GoodIn wsX9_clamp (wsV RX9 89 RX9 yX9_know wsX9_know) := goodIn_app (goodIn_of _ (by decide +kernel)) ggX9_clamp_X9_know
theorem dX9_clamp_0 : decode cX9_clamp 0 = .ok (.iload_n 1, 1) := by decide +kernel
theorem dX9_clamp_1 : decode cX9_clamp 1 = .ok (.iload_n 2, 1) := by decide +kernel
theorem dX9_clamp_2 : decode cX9_clamp 2 = .ok (.invokestatic 80, 3) := by decide +kernel
theorem dX9_clamp_5 : decode cX9_clamp 5 = .ok (.ifCond .ne 5, 3) := by decide +kernel
theorem dX9_clamp_8 : decode cX9_clamp 8 = .ok (.iconst (-1), 1) := by decide +kernel
theorem dX9_clamp_9 : decode cX9_clamp 9 = .ok (.ireturn, 1) := by decide +kernel
theorem dX9_clamp_10 : decode cX9_clamp 10 = .ok (.aload_n 0, 1) := by decide +kernel
theorem dX9_clamp_11 : decode cX9_clamp 11 = .ok (.getfield 22, 3) := by decide +kernel
theorem dX9_clamp_14 : decode cX9_clamp 14 = .ok (.sipush 154, 3) := by decide +kernel
theorem dX9_clamp_17 : decode cX9_clamp 17 = .ok (.iaload, 1) := by decide +kernel
theorem dX9_clamp_18 : decode cX9_clamp 18 = .ok (.iconst 4, 1) := by decide +kernel
theorem dX9_clamp_19 : decode cX9_clamp 19 = .ok (.if_icmp .ne 6, 3) := by decide +kernel
theorem dX9_clamp_22 : decode cX9_clamp 22 = .ok (.bipush (-3), 2) := by decide +kernel
theorem dX9_clamp_24 : decode cX9_clamp 24 = .ok (.ireturn, 1) := by decide +kernel
theorem dX9_clamp_25 : decode cX9_clamp 25 = .ok (.aload_n 0, 1) := by decide +kernel
theorem dX9_clamp_26 : decode cX9_clamp 26 = .ok (.bipush 12, 2) := by decide +kernel
theorem dX9_clamp_28 : decode cX9_clamp 28 = .ok (.iload_n 2, 1) := by decide +kernel
theorem dX9_clamp_29 : decode cX9_clamp 29 = .ok (.imul, 1) := by decide +kernel
theorem dX9_clamp_30 : decode cX9_clamp 30 = .ok (.iload_n 1, 1) := by decide +kernel
theorem dX9_clamp_31 : decode cX9_clamp 31 = .ok (.iadd, 1) := by decide +kernel
theorem dX9_clamp_32 : decode cX9_clamp 32 = .ok (.invokevirtual 96, 3) := by decide +kernel
theorem dX9_clamp_35 : decode cX9_clamp 35 = .ok (.bipush (-5), 2) := by decide +kernel
theorem dX9_clamp_37 : decode cX9_clamp 37 = .ok (.if_icmp .eq 6, 3) := by decide +kernel
theorem dX9_clamp_40 : decode cX9_clamp 40 = .ok (.bipush (-5), 2) := by decide +kernel
theorem dX9_clamp_42 : decode cX9_clamp 42 = .ok (.ireturn, 1) := by decide +kernel
theorem dX9_clamp_43 : decode cX9_clamp 43 = .ok (.aload_n 0, 1) := by decide +kernel
theorem dX9_clamp_44 : decode cX9_clamp 44 = .ok (.invokevirtual 89, 3) := by decide +kernel
theorem dX9_clamp_47 : decode cX9_clamp 47 = .ok (.aload_n 0, 1) := by decide +kernel
theorem dX9_clamp_48 : decode cX9_clamp 48 = .ok (.getfield 22, 3) := by decide +kernel
theorem dX9_clamp_51 : decode cX9_clamp 51 = .ok (.sipush 155, 3) := by decide +kernel
theorem dX9_clamp_54 : decode cX9_clamp 54 = .ok (.aload_n 0, 1) := by decide +kernel
theorem dX9_clamp_55 : decode cX9_clamp 55 = .ok (.getfield 22, 3) := by decide +kernel
theorem dX9_clamp_58 : decode cX9_clamp 58 = .ok (.sipush 154, 3) := by decide +kernel
theorem dX9_clamp_61 : decode cX9_clamp 61 = .ok (.iaload, 1) := by decide +kernel
theorem dX9_clamp_62 : decode cX9_clamp 62 = .ok (.iadd, 1) := by decide +kernel
theorem dX9_clamp_63 : decode cX9_clamp 63 = .ok (.bipush 12, 2) := by decide +kernel
theorem dX9_clamp_65 : decode cX9_clamp 65 = .ok (.iload_n 2, 1) := by decide +kernel
theorem dX9_clamp_66 : decode cX9_clamp 66 = .ok (.imul, 1) := by decide +kernel
theorem dX9_clamp_67 : decode cX9_clamp 67 = .ok (.iload_n 1, 1) := by decide +kernel
theorem dX9_clamp_68 : decode cX9_clamp 68 = .ok (.iadd, 1) := by decide +kernel
theorem dX9_clamp_69 : decode cX9_clamp 69 = .ok (.iastore, 1) := by decide +kernel
theorem dX9_clamp_70 : decode cX9_clamp 70 = .ok (.aload_n 0, 1) := by decide +kernel
theorem dX9_clamp_71 : decode cX9_clamp 71 = .ok (.getfield 22, 3) := by decide +kernel
theorem dX9_clamp_74 : decode cX9_clamp 74 = .ok (.sipush 154, 3) := by decide +kernel
theorem dX9_clamp_77 : decode cX9_clamp 77 = .ok (.dup2, 1) := by decide +kernel
theorem dX9_clamp_78 : decode cX9_clamp 78 = .ok (.iaload, 1) := by decide +kernel
theorem dX9_clamp_79 : decode cX9_clamp 79 = .ok (.iconst 1, 1) := by decide +kernel
theorem dX9_clamp_80 : decode cX9_clamp 80 = .ok (.iadd, 1) := by decide +kernel
theorem dX9_clamp_81 : decode cX9_clamp 81 = .ok (.iastore, 1) := by decide +kernel
theorem dX9_clamp_82 : decode cX9_clamp 82 = .ok (.aload_n 0, 1) := by decide +kernel
theorem dX9_clamp_83 : decode cX9_clamp 83 = .ok (.getfield 22, 3) := by decide +kernel
theorem dX9_clamp_86 : decode cX9_clamp 86 = .ok (.sipush 154, 3) := by decide +kernel
theorem dX9_clamp_89 : decode cX9_clamp 89 = .ok (.iaload, 1) := by decide +kernel
theorem dX9_clamp_90 : decode cX9_clamp 90 = .ok (.ireturn, 1) := by decide +kernel
set_option maxRecDepth 20000 in
theorem ggX9_unclamp_X9_in : GoodIn wsX9_unclamp wsX9_in := goodIn_r _ [5] (by decide +kernel) (by decide +kernel)
set_option maxRecDepth 20000 in
theorem gX9_unclamp_X9_in : GoodIn wsX9_unclamp (va_wsS RX9 55 yX9_in wsX9_in) := goodIn_app (goodIn_of _ (by decide +kernel)) ggX9_unclamp_X9_in
set_option maxRecDepth 20000 in
theorem ggX9_unclamp_X9_know : GoodIn wsX9_unclamp wsX9_know := goodIn_r _ [9, 10, 11, 1, 12, 13, 14, 15, 16, 17, 18, 19, 20, 21, 22, 23, 24, 25, 26, 27] (by decide +kernel) (by decide +kernel)
set_option maxRecDepth 20000 in
theorem gX9_unclamp_X9_know : GoodIn wsX9_unclamp (wsV RX9 89 RX9 yX9_know wsX9_know) := goodIn_app (goodIn_of _ (by decide +kernel)) ggX9_unclamp_X9_know
theorem dX9_unclamp_0 : decode cX9_unclamp 0 = .ok (.iload_n 1, 1) := by decide +kernel
theorem dX9_unclamp_1 : decode cX9_unclamp 1 = .ok (.iconst 0, 1) := by decide +kernel
theorem dX9_unclamp_2 : decode cX9_unclamp 2 = .ok (.aload_n 0, 1) := by decide +kernel
theorem dX9_unclamp_3 : decode cX9_unclamp 3 = .ok (.getfield 22, 3) := by decide +kernel
theorem dX9_unclamp_6 : decode cX9_unclamp 6 = .ok (.sipush 154, 3) := by decide +kernel
theorem dX9_unclamp_9 : decode cX9_unclamp 9 = .ok (.iaload, 1) := by decide +kernel
theorem dX9_unclamp_10 : decode cX9_unclamp 10 = .ok (.iconst 1, 1) := by decide +kernel
theorem dX9_unclamp_11 : decode cX9_unclamp 11 = .ok (.isub, 1) := by decide +kernel
theorem dX9_unclamp_12 : decode cX9_unclamp 12 = .ok (.invokestatic 55, 3) := by decide +kernel
theorem dX9_unclamp_15 : decode cX9_unclamp 15 = .ok (.ifCond .ne 5, 3) := by decide +kernel
theorem dX9_unclamp_18 : decode cX9_unclamp 18 = .ok (.iconst (-1), 1) := by decide +kernel
theorem dX9_unclamp_19 : decode cX9_unclamp 19 = .ok (.ireturn, 1) := by decide +kernel
theorem dX9_unclamp_20 : decode cX9_unclamp 20 = .ok (.aload_n 0, 1) := by decide +kernel
theorem dX9_unclamp_21 : decode cX9_unclamp 21 = .ok (.invokevirtual 89, 3) := by decide +kernel
theorem dX9_unclamp_24 : decode cX9_unclamp 24 = .ok (.aload_n 0, 1) := by decide +kernel
theorem dX9_unclamp_25 : decode cX9_unclamp 25 = .ok (.getfield 22, 3) := by decide +kernel
theorem dX9_unclamp_28 : decode cX9_unclamp 28 = .ok (.sipush 154, 3) := by decide +kernel
theorem dX9_unclamp_31 : decode cX9_unclamp 31 = .ok (.dup2, 1) := by decide +kernel
theorem dX9_unclamp_32 : decode cX9_unclamp 32 = .ok (.iaload, 1) := by decide +kernel
theorem dX9_unclamp_33 : decode cX9_unclamp 33 = .ok (.iconst 1, 1) := by decide +kernel
theorem dX9_unclamp_34 : decode cX9_unclamp 34 = .ok (.isub, 1) := by decide +kernel
theorem dX9_unclamp_35 : decode cX9_unclamp 35 = .ok (.iastore, 1) := by decide +kernel
theorem dX9_unclamp_36 : decode cX9_unclamp 36 = .ok (.iload_n 1, 1) := by decide +kernel
theorem dX9_unclamp_37 : decode cX9_unclamp 37 = .ok (.istore_n 2, 1) := by decide +kernel
theorem dX9_unclamp_38 : decode cX9_unclamp 38 = .ok (.iload_n 2, 1) := by decide +kernel
theorem dX9_unclamp_39 : decode cX9_unclamp 39 = .ok (.aload_n 0, 1) := by decide +kernel
theorem dX9_unclamp_40 : decode cX9_unclamp 40 = .ok (.getfield 22, 3) := by decide +kernel
theorem dX9_unclamp_43 : decode cX9_unclamp 43 = .ok (.sipush 154, 3) := by decide +kernel
theorem dX9_unclamp_46 : decode cX9_unclamp 46 = .ok (.iaload, 1) := by decide +kernel
theorem dX9_unclamp_47 : decode cX9_unclamp 47 = .ok (.if_icmp .ge 31, 3) := by decide +kernel
theorem dX9_unclamp_50 : decode cX9_unclamp 50 = .ok (.aload_n 0, 1) := by decide +kernel
theorem dX9_unclamp_51 : decode cX9_unclamp 51 = .ok (.getfield 22, 3) := by decide +kernel
theorem dX9_unclamp_54 : decode cX9_unclamp 54 = .ok (.sipush 155, 3) := by decide +kernel
theorem dX9_unclamp_57 : decode cX9_unclamp 57 = .ok (.iload_n 2, 1) := by decide +kernel
theorem dX9_unclamp_58 : decode cX9_unclamp 58 = .ok (.iadd, 1) := by decide +kernel
theorem dX9_unclamp_59 : decode cX9_unclamp 59 = .ok (.aload_n 0, 1) := by decide +kernel
theorem dX9_unclamp_60 : decode cX9_unclamp 60 = .ok (.getfield 22, 3) := by decide +kernel
theorem dX9_unclamp_63 : decode cX9_unclamp 63 = .ok (.sipush 155, 3) := by decide +kernel
theorem dX9_unclamp_66 : decode cX9_unclamp 66 = .ok (.iload_n 2, 1) := by decide +kernel
theorem dX9_unclamp_67 : decode cX9_unclamp 67 = .ok (.iadd, 1) := by decide +kernel
theorem dX9_unclamp_68 : decode cX9_unclamp 68 = .ok (.iconst 1, 1) := by decide +kernel
theorem dX9_unclamp_69 : decode cX9_unclamp 69 = .ok (.iadd, 1) := by decide +kernel
theorem dX9_unclamp_70 : decode cX9_unclamp 70 = .ok (.iaload, 1) := by decide +kernel
theorem dX9_unclamp_71 : decode cX9_unclamp 71 = .ok (.iastore, 1) := by decide +kernel
theorem dX9_unclamp_72 : decode cX9_unclamp 72 = .ok (.iinc 2 1, 3) := by decide +kernel
theorem dX9_unclamp_75 : decode cX9_unclamp 75 = .ok (.goto (-37), 3) := by decide +kernel
theorem dX9_unclamp_78 : decode cX9_unclamp 78 = .ok (.aload_n 0, 1) := by decide +kernel
theorem dX9_unclamp_79 : decode cX9_unclamp 79 = .ok (.getfield 22, 3) := by decide +kernel
theorem dX9_unclamp_82 : decode cX9_unclamp 82 = .ok (.sipush 154, 3) := by decide +kernel
theorem dX9_unclamp_85 : decode cX9_unclamp 85 = .ok (.iaload, 1) := by decide +kernel
theorem dX9_unclamp_86 : decode cX9_unclamp 86 = .ok (.ireturn, 1) := by decide +kernel
set_option maxRecDepth 20000 in
theorem ggX9_set_X9_in : GoodIn wsX9_set wsX9_in := goodIn_r _ [5] (by decide +kernel) (by decide +kernel)
set_option maxRecDepth 20000 in
theorem gX9_set_X9_in : GoodIn wsX9_set (va_wsS RX9 55 yX9_in wsX9_in) := goodIn_app (goodIn_of _ (by decide +kernel)) ggX9_set_X9_in
set_option maxRecDepth 20000 in
theorem ggX9_set_X9_know : GoodIn wsX9_set wsX9_know := goodIn_r _ [9, 10, 11, 1, 12, 13, 14, 15, 16, 17, 18, 19, 20, 21, 22, 23, 24, 25, 26, 27] (by decide +kernel) (by decide +kernel)
set_option maxRecDepth 20000 in
theorem gX9_set_X9_know : GoodIn wsX9_set (wsV RX9 89 RX9 yX9_know wsX9_know) := goodIn_app (goodIn_of _ (by decide +kernel)) ggX9_set_X9_know
theorem dX9_set_0 : decode cX9_set 0 = .ok (.iload_n 1, 1) := by decide +kernel
theorem dX9_set_1 : decode cX9_set 1 = .ok (.iconst 1, 1) := by decide +kernel
theorem dX9_set_2 : decode cX9_set 2 = .ok (.if_icmp .ne 7, 3) := by decide +kernel
theorem dX9_set_5 : decode cX9_set 5 = .ok (.iconst 1, 1) := by decide +kernel
theorem dX9_set_6 : decode cX9_set 6 = .ok (.goto 14, 3) := by decide +kernel
theorem dX9_set_9 : decode cX9_set 9 = .ok (.iload_n 1, 1) := by decide +kernel
theorem dX9_set_10 : decode cX9_set 10 = .ok (.iconst 3, 1) := by decide +kernel
theorem dX9_set_11 : decode cX9_set 11 = .ok (.if_icmp .ne 8, 3) := by decide +kernel
theorem dX9_set_14 : decode cX9_set 14 = .ok (.bipush 50, 2) := by decide +kernel
theorem dX9_set_16 : decode cX9_set 16 = .ok (.goto 4, 3) := by decide +kernel
theorem dX9_set_19 : decode cX9_set 19 = .ok (.iconst 0, 1) := by decide +kernel
theorem dX9_set_20 : decode cX9_set 20 = .ok (.istore_n 3, 1) := by decide +kernel
theorem dX9_set_21 : decode cX9_set 21 = .ok (.iload_n 1, 1) := by decide +kernel
theorem dX9_set_22 : decode cX9_set 22 = .ok (.iconst 1, 1) := by decide +kernel
theorem dX9_set_23 : decode cX9_set 23 = .ok (.if_icmp .ne 9, 3) := by decide +kernel
theorem dX9_set_26 : decode cX9_set 26 = .ok (.sipush 150, 3) := by decide +kernel
theorem dX9_set_29 : decode cX9_set 29 = .ok (.goto 16, 3) := by decide +kernel
theorem dX9_set_32 : decode cX9_set 32 = .ok (.iload_n 1, 1) := by decide +kernel
theorem dX9_set_33 : decode cX9_set 33 = .ok (.iconst 3, 1) := by decide +kernel
theorem dX9_set_34 : decode cX9_set 34 = .ok (.if_icmp .ne 9, 3) := by decide +kernel
theorem dX9_set_37 : decode cX9_set 37 = .ok (.sipush 201, 3) := by decide +kernel
theorem dX9_set_40 : decode cX9_set 40 = .ok (.goto 5, 3) := by decide +kernel
theorem dX9_set_43 : decode cX9_set 43 = .ok (.bipush 60, 2) := by decide +kernel
theorem dX9_set_45 : decode cX9_set 45 = .ok (.istore 4, 2) := by decide +kernel
theorem dX9_set_47 : decode cX9_set 47 = .ok (.iload_n 1, 1) := by decide +kernel
theorem dX9_set_48 : decode cX9_set 48 = .ok (.iconst 0, 1) := by decide +kernel
theorem dX9_set_49 : decode cX9_set 49 = .ok (.iconst 3, 1) := by decide +kernel
theorem dX9_set_50 : decode cX9_set 50 = .ok (.invokestatic 55, 3) := by decide +kernel
theorem dX9_set_53 : decode cX9_set 53 = .ok (.ifCond .eq 13, 3) := by decide +kernel
theorem dX9_set_56 : decode cX9_set 56 = .ok (.iload_n 2, 1) := by decide +kernel
theorem dX9_set_57 : decode cX9_set 57 = .ok (.iload_n 3, 1) := by decide +kernel
theorem dX9_set_58 : decode cX9_set 58 = .ok (.iload 4, 2) := by decide +kernel
theorem dX9_set_60 : decode cX9_set 60 = .ok (.invokestatic 55, 3) := by decide +kernel
theorem dX9_set_63 : decode cX9_set 63 = .ok (.ifCond .ne 6, 3) := by decide +kernel
theorem dX9_set_66 : decode cX9_set 66 = .ok (.bipush (-2), 2) := by decide +kernel
theorem dX9_set_68 : decode cX9_set 68 = .ok (.ireturn, 1) := by decide +kernel
theorem dX9_set_69 : decode cX9_set 69 = .ok (.aload_n 0, 1) := by decide +kernel
theorem dX9_set_70 : decode cX9_set 70 = .ok (.getfield 22, 3) := by decide +kernel
theorem dX9_set_73 : decode cX9_set 73 = .ok (.sipush 144, 3) := by decide +kernel
theorem dX9_set_76 : decode cX9_set 76 = .ok (.iload_n 1, 1) := by decide +kernel
theorem dX9_set_77 : decode cX9_set 77 = .ok (.iadd, 1) := by decide +kernel
theorem dX9_set_78 : decode cX9_set 78 = .ok (.iaload, 1) := by decide +kernel
theorem dX9_set_79 : decode cX9_set 79 = .ok (.istore 5, 2) := by decide +kernel
theorem dX9_set_81 : decode cX9_set 81 = .ok (.iload 5, 2) := by decide +kernel
theorem dX9_set_83 : decode cX9_set 83 = .ok (.iload_n 2, 1) := by decide +kernel
theorem dX9_set_84 : decode cX9_set 84 = .ok (.if_icmp .ne 6, 3) := by decide +kernel
theorem dX9_set_87 : decode cX9_set 87 = .ok (.bipush (-5), 2) := by decide +kernel
theorem dX9_set_89 : decode cX9_set 89 = .ok (.ireturn, 1) := by decide +kernel
theorem dX9_set_90 : decode cX9_set 90 = .ok (.aload_n 0, 1) := by decide +kernel
theorem dX9_set_91 : decode cX9_set 91 = .ok (.invokevirtual 89, 3) := by decide +kernel
theorem dX9_set_94 : decode cX9_set 94 = .ok (.aload_n 0, 1) := by decide +kernel
theorem dX9_set_95 : decode cX9_set 95 = .ok (.getfield 22, 3) := by decide +kernel
theorem dX9_set_98 : decode cX9_set 98 = .ok (.sipush 144, 3) := by decide +kernel
theorem dX9_set_101 : decode cX9_set 101 = .ok (.iload_n 1, 1) := by decide +kernel
theorem dX9_set_102 : decode cX9_set 102 = .ok (.iadd, 1) := by decide +kernel
theorem dX9_set_103 : decode cX9_set 103 = .ok (.iload_n 2, 1) := by decide +kernel
theorem dX9_set_104 : decode cX9_set 104 = .ok (.iastore, 1) := by decide +kernel
theorem dX9_set_105 : decode cX9_set 105 = .ok (.iload 5, 2) := by decide +kernel
theorem dX9_set_107 : decode cX9_set 107 = .ok (.ireturn, 1) := by decide +kernel
theorem dX9_waits_0 : decode cX9_waits 0 = .ok (.sipush 160, 3) := by decide +kernel
theorem dX9_waits_3 : decode cX9_waits 3 = .ok (.iconst 3, 1) := by decide +kernel
theorem dX9_waits_4 : decode cX9_waits 4 = .ok (.aload_n 0, 1) := by decide +kernel
theorem dX9_waits_5 : decode cX9_waits 5 = .ok (.getfield 22, 3) := by decide +kernel
theorem dX9_waits_8 : decode cX9_waits 8 = .ok (.sipush 159, 3) := by decide +kernel
theorem dX9_waits_11 : decode cX9_waits 11 = .ok (.iaload, 1) := by decide +kernel
theorem dX9_waits_12 : decode cX9_waits 12 = .ok (.imul, 1) := by decide +kernel
theorem dX9_waits_13 : decode cX9_waits 13 = .ok (.iadd, 1) := by decide +kernel
theorem dX9_waits_14 : decode cX9_waits 14 = .ok (.istore 4, 2) := by decide +kernel
theorem dX9_waits_16 : decode cX9_waits 16 = .ok (.aload_n 0, 1) := by decide +kernel
theorem dX9_waits_17 : decode cX9_waits 17 = .ok (.getfield 22, 3) := by decide +kernel
theorem dX9_waits_20 : decode cX9_waits 20 = .ok (.iload 4, 2) := by decide +kernel
theorem dX9_waits_22 : decode cX9_waits 22 = .ok (.iload_n 1, 1) := by decide +kernel
theorem dX9_waits_23 : decode cX9_waits 23 = .ok (.iastore, 1) := by decide +kernel
theorem dX9_waits_24 : decode cX9_waits 24 = .ok (.aload_n 0, 1) := by decide +kernel
theorem dX9_waits_25 : decode cX9_waits 25 = .ok (.getfield 22, 3) := by decide +kernel
theorem dX9_waits_28 : decode cX9_waits 28 = .ok (.iload 4, 2) := by decide +kernel
theorem dX9_waits_30 : decode cX9_waits 30 = .ok (.iconst 1, 1) := by decide +kernel
theorem dX9_waits_31 : decode cX9_waits 31 = .ok (.iadd, 1) := by decide +kernel
theorem dX9_waits_32 : decode cX9_waits 32 = .ok (.iload_n 2, 1) := by decide +kernel
theorem dX9_waits_33 : decode cX9_waits 33 = .ok (.iastore, 1) := by decide +kernel
theorem dX9_waits_34 : decode cX9_waits 34 = .ok (.aload_n 0, 1) := by decide +kernel
theorem dX9_waits_35 : decode cX9_waits 35 = .ok (.getfield 22, 3) := by decide +kernel
theorem dX9_waits_38 : decode cX9_waits 38 = .ok (.iload 4, 2) := by decide +kernel
theorem dX9_waits_40 : decode cX9_waits 40 = .ok (.iconst 2, 1) := by decide +kernel
theorem dX9_waits_41 : decode cX9_waits 41 = .ok (.iadd, 1) := by decide +kernel
theorem dX9_waits_42 : decode cX9_waits 42 = .ok (.iload_n 3, 1) := by decide +kernel
theorem dX9_waits_43 : decode cX9_waits 43 = .ok (.iastore, 1) := by decide +kernel
theorem dX9_waits_44 : decode cX9_waits 44 = .ok (.aload_n 0, 1) := by decide +kernel
theorem dX9_waits_45 : decode cX9_waits 45 = .ok (.getfield 22, 3) := by decide +kernel
theorem dX9_waits_48 : decode cX9_waits 48 = .ok (.sipush 159, 3) := by decide +kernel
theorem dX9_waits_51 : decode cX9_waits 51 = .ok (.dup2, 1) := by decide +kernel
theorem dX9_waits_52 : decode cX9_waits 52 = .ok (.iaload, 1) := by decide +kernel
theorem dX9_waits_53 : decode cX9_waits 53 = .ok (.iconst 1, 1) := by decide +kernel
theorem dX9_waits_54 : decode cX9_waits 54 = .ok (.iadd, 1) := by decide +kernel
theorem dX9_waits_55 : decode cX9_waits 55 = .ok (.iastore, 1) := by decide +kernel
theorem dX9_waits_56 : decode cX9_waits 56 = .ok (.aload_n 0, 1) := by decide +kernel
theorem dX9_waits_57 : decode cX9_waits 57 = .ok (.getfield 22, 3) := by decide +kernel
theorem dX9_waits_60 : decode cX9_waits 60 = .ok (.sipush 159, 3) := by decide +kernel
theorem dX9_waits_63 : decode cX9_waits 63 = .ok (.iaload, 1) := by decide +kernel
theorem dX9_waits_64 : decode cX9_waits 64 = .ok (.ireturn, 1) := by decide +kernel
set_option maxRecDepth 20000 in
theorem ggX9_bow_X9_isBow : GoodIn wsX9_bow wsX9_isBow := goodIn_r _ [5, 6, 7, 4, 8] (by decide +kernel) (by decide +kernel)
set_option maxRecDepth 20000 in
theorem gX9_bow_X9_isBow : GoodIn wsX9_bow (va_wsS RX9 99 yX9_isBow wsX9_isBow) := goodIn_app (goodIn_of _ (by decide +kernel)) ggX9_bow_X9_isBow
set_option maxRecDepth 20000 in
theorem ggX9_bow_X9_in : GoodIn wsX9_bow wsX9_in := goodIn_r _ [8] (by decide +kernel) (by decide +kernel)
set_option maxRecDepth 20000 in
theorem gX9_bow_X9_in : GoodIn wsX9_bow (va_wsS RX9 55 yX9_in wsX9_in) := goodIn_app (goodIn_of _ (by decide +kernel)) ggX9_bow_X9_in
set_option maxRecDepth 20000 in
theorem ggX9_bow_X9_know : GoodIn wsX9_bow wsX9_know := goodIn_r _ [12, 13, 14, 1, 19, 20, 21, 22, 23, 24, 25, 26, 27, 28, 29, 30, 31, 32, 33, 34] (by decide +kernel) (by decide +kernel)
set_option maxRecDepth 20000 in
theorem gX9_bow_X9_know : GoodIn wsX9_bow (wsV RX9 89 RX9 yX9_know wsX9_know) := goodIn_app (goodIn_of _ (by decide +kernel)) ggX9_bow_X9_know
set_option maxRecDepth 20000 in
theorem ggX9_bow_X9_waits : GoodIn wsX9_bow wsX9_waits := goodIn_r _ [18, 1, 19, 20, 21, 22, 23, 24, 25, 26, 27, 28, 29, 30, 31, 32, 33, 34] (by decide +kernel) (by decide +kernel)
set_option maxRecDepth 20000 in
theorem gX9_bow_X9_waits : GoodIn wsX9_bow (wsV RX9 102 RX9 yX9_waits wsX9_waits) := goodIn_app (goodIn_of _ (by decide +kernel)) ggX9_bow_X9_waits
theorem dX9_bow_0 : decode cX9_bow 0 = .ok (.iload_n 1, 1) := by decide +kernel
theorem dX9_bow_1 : decode cX9_bow 1 = .ok (.iload_n 2, 1) := by decide +kernel
theorem dX9_bow_2 : decode cX9_bow 2 = .ok (.invokestatic 99, 3) := by decide +kernel
theorem dX9_bow_5 : decode cX9_bow 5 = .ok (.ifCond .ne 5, 3) := by decide +kernel
theorem dX9_bow_8 : decode cX9_bow 8 = .ok (.iconst (-1), 1) := by decide +kernel
theorem dX9_bow_9 : decode cX9_bow 9 = .ok (.ireturn, 1) := by decide +kernel
theorem dX9_bow_10 : decode cX9_bow 10 = .ok (.iload_n 3, 1) := by decide +kernel
theorem dX9_bow_11 : decode cX9_bow 11 = .ok (.iconst 1, 1) := by decide +kernel
theorem dX9_bow_12 : decode cX9_bow 12 = .ok (.bipush 20, 2) := by decide +kernel
theorem dX9_bow_14 : decode cX9_bow 14 = .ok (.invokestatic 55, 3) := by decide +kernel
theorem dX9_bow_17 : decode cX9_bow 17 = .ok (.ifCond .ne 6, 3) := by decide +kernel
theorem dX9_bow_20 : decode cX9_bow 20 = .ok (.bipush (-2), 2) := by decide +kernel
theorem dX9_bow_22 : decode cX9_bow 22 = .ok (.ireturn, 1) := by decide +kernel
theorem dX9_bow_23 : decode cX9_bow 23 = .ok (.aload_n 0, 1) := by decide +kernel
theorem dX9_bow_24 : decode cX9_bow 24 = .ok (.getfield 22, 3) := by decide +kernel
theorem dX9_bow_27 : decode cX9_bow 27 = .ok (.sipush 159, 3) := by decide +kernel
theorem dX9_bow_30 : decode cX9_bow 30 = .ok (.iaload, 1) := by decide +kernel
theorem dX9_bow_31 : decode cX9_bow 31 = .ok (.bipush 16, 2) := by decide +kernel
theorem dX9_bow_33 : decode cX9_bow 33 = .ok (.if_icmp .ne 6, 3) := by decide +kernel
theorem dX9_bow_36 : decode cX9_bow 36 = .ok (.bipush (-3), 2) := by decide +kernel
theorem dX9_bow_38 : decode cX9_bow 38 = .ok (.ireturn, 1) := by decide +kernel
theorem dX9_bow_39 : decode cX9_bow 39 = .ok (.aload_n 0, 1) := by decide +kernel
theorem dX9_bow_40 : decode cX9_bow 40 = .ok (.invokevirtual 89, 3) := by decide +kernel
theorem dX9_bow_43 : decode cX9_bow 43 = .ok (.aload_n 0, 1) := by decide +kernel
theorem dX9_bow_44 : decode cX9_bow 44 = .ok (.iload_n 1, 1) := by decide +kernel
theorem dX9_bow_45 : decode cX9_bow 45 = .ok (.iload_n 2, 1) := by decide +kernel
theorem dX9_bow_46 : decode cX9_bow 46 = .ok (.iload_n 3, 1) := by decide +kernel
theorem dX9_bow_47 : decode cX9_bow 47 = .ok (.invokevirtual 102, 3) := by decide +kernel
theorem dX9_bow_50 : decode cX9_bow 50 = .ok (.ireturn, 1) := by decide +kernel
theorem dX9_strikeAt_0 : decode cX9_strikeAt 0 = .ok (.aload_n 0, 1) := by decide +kernel
theorem dX9_strikeAt_1 : decode cX9_strikeAt 1 = .ok (.getfield 22, 3) := by decide +kernel
theorem dX9_strikeAt_4 : decode cX9_strikeAt 4 = .ok (.sipush 159, 3) := by decide +kernel
theorem dX9_strikeAt_7 : decode cX9_strikeAt 7 = .ok (.dup2, 1) := by decide +kernel
theorem dX9_strikeAt_8 : decode cX9_strikeAt 8 = .ok (.iaload, 1) := by decide +kernel
theorem dX9_strikeAt_9 : decode cX9_strikeAt 9 = .ok (.iconst 1, 1) := by decide +kernel
theorem dX9_strikeAt_10 : decode cX9_strikeAt 10 = .ok (.isub, 1) := by decide +kernel
theorem dX9_strikeAt_11 : decode cX9_strikeAt 11 = .ok (.iastore, 1) := by decide +kernel
theorem dX9_strikeAt_12 : decode cX9_strikeAt 12 = .ok (.sipush 160, 3) := by decide +kernel
theorem dX9_strikeAt_15 : decode cX9_strikeAt 15 = .ok (.iconst 3, 1) := by decide +kernel
theorem dX9_strikeAt_16 : decode cX9_strikeAt 16 = .ok (.iload_n 1, 1) := by decide +kernel
theorem dX9_strikeAt_17 : decode cX9_strikeAt 17 = .ok (.imul, 1) := by decide +kernel
theorem dX9_strikeAt_18 : decode cX9_strikeAt 18 = .ok (.iadd, 1) := by decide +kernel
theorem dX9_strikeAt_19 : decode cX9_strikeAt 19 = .ok (.istore_n 2, 1) := by decide +kernel
theorem dX9_strikeAt_20 : decode cX9_strikeAt 20 = .ok (.iload_n 2, 1) := by decide +kernel
theorem dX9_strikeAt_21 : decode cX9_strikeAt 21 = .ok (.sipush 160, 3) := by decide +kernel
theorem dX9_strikeAt_24 : decode cX9_strikeAt 24 = .ok (.iconst 3, 1) := by decide +kernel
theorem dX9_strikeAt_25 : decode cX9_strikeAt 25 = .ok (.aload_n 0, 1) := by decide +kernel
theorem dX9_strikeAt_26 : decode cX9_strikeAt 26 = .ok (.getfield 22, 3) := by decide +kernel
theorem dX9_strikeAt_29 : decode cX9_strikeAt 29 = .ok (.sipush 159, 3) := by decide +kernel
theorem dX9_strikeAt_32 : decode cX9_strikeAt 32 = .ok (.iaload, 1) := by decide +kernel
theorem dX9_strikeAt_33 : decode cX9_strikeAt 33 = .ok (.imul, 1) := by decide +kernel
theorem dX9_strikeAt_34 : decode cX9_strikeAt 34 = .ok (.iadd, 1) := by decide +kernel
theorem dX9_strikeAt_35 : decode cX9_strikeAt 35 = .ok (.if_icmp .ge 23, 3) := by decide +kernel
theorem dX9_strikeAt_38 : decode cX9_strikeAt 38 = .ok (.aload_n 0, 1) := by decide +kernel
theorem dX9_strikeAt_39 : decode cX9_strikeAt 39 = .ok (.getfield 22, 3) := by decide +kernel
theorem dX9_strikeAt_42 : decode cX9_strikeAt 42 = .ok (.iload_n 2, 1) := by decide +kernel
theorem dX9_strikeAt_43 : decode cX9_strikeAt 43 = .ok (.aload_n 0, 1) := by decide +kernel
theorem dX9_strikeAt_44 : decode cX9_strikeAt 44 = .ok (.getfield 22, 3) := by decide +kernel
theorem dX9_strikeAt_47 : decode cX9_strikeAt 47 = .ok (.iload_n 2, 1) := by decide +kernel
theorem dX9_strikeAt_48 : decode cX9_strikeAt 48 = .ok (.iconst 3, 1) := by decide +kernel
theorem dX9_strikeAt_49 : decode cX9_strikeAt 49 = .ok (.iadd, 1) := by decide +kernel
theorem dX9_strikeAt_50 : decode cX9_strikeAt 50 = .ok (.iaload, 1) := by decide +kernel
theorem dX9_strikeAt_51 : decode cX9_strikeAt 51 = .ok (.iastore, 1) := by decide +kernel
theorem dX9_strikeAt_52 : decode cX9_strikeAt 52 = .ok (.iinc 2 1, 3) := by decide +kernel
theorem dX9_strikeAt_55 : decode cX9_strikeAt 55 = .ok (.goto (-35), 3) := by decide +kernel
theorem dX9_strikeAt_58 : decode cX9_strikeAt 58 = .ok (.return_, 1) := by decide +kernel
set_option maxRecDepth 20000 in
theorem ggX9_strike_X9_in : GoodIn wsX9_strike wsX9_in := goodIn_r _ [5] (by decide +kernel) (by decide +kernel)
set_option maxRecDepth 20000 in
theorem gX9_strike_X9_in : GoodIn wsX9_strike (va_wsS RX9 55 yX9_in wsX9_in) := goodIn_app (goodIn_of _ (by decide +kernel)) ggX9_strike_X9_in
set_option maxRecDepth 20000 in
theorem ggX9_strike_X9_know : GoodIn wsX9_strike wsX9_know := goodIn_r _ [9, 10, 11, 1, 16, 17, 18, 19, 20, 21, 22, 23, 24, 25, 26, 27, 28, 29, 30, 31] (by decide +kernel) (by decide +kernel)
set_option maxRecDepth 20000 in
theorem gX9_strike_X9_know : GoodIn wsX9_strike (wsV RX9 89 RX9 yX9_know wsX9_know) := goodIn_app (goodIn_of _ (by decide +kernel)) ggX9_strike_X9_know
set_option maxRecDepth 20000 in
theorem ggX9_strike_X9_strikeAt : GoodIn wsX9_strike wsX9_strikeAt := goodIn_r _ [15, 1, 16, 17, 18, 19, 20, 21, 22, 23, 24, 25, 26, 27, 28, 29, 30, 31] (by decide +kernel) (by decide +kernel)
set_option maxRecDepth 20000 in
theorem gX9_strike_X9_strikeAt : GoodIn wsX9_strike (wsV RX9 106 RX9 yX9_strikeAt wsX9_strikeAt) := goodIn_app (goodIn_of _ (by decide +kernel)) ggX9_strike_X9_strikeAt
theorem dX9_strike_0 : decode cX9_strike 0 = .ok (.iload_n 1, 1) := by decide +kernel
theorem dX9_strike_1 : decode cX9_strike 1 = .ok (.iconst 0, 1) := by decide +kernel
theorem dX9_strike_2 : decode cX9_strike 2 = .ok (.iconst 3, 1) := by decide +kernel
theorem dX9_strike_3 : decode cX9_strike 3 = .ok (.invokestatic 55, 3) := by decide +kernel
theorem dX9_strike_6 : decode cX9_strike 6 = .ok (.ifCond .ne 5, 3) := by decide +kernel
theorem dX9_strike_9 : decode cX9_strike 9 = .ok (.iconst (-1), 1) := by decide +kernel
theorem dX9_strike_10 : decode cX9_strike 10 = .ok (.ireturn, 1) := by decide +kernel
theorem dX9_strike_11 : decode cX9_strike 11 = .ok (.iconst 0, 1) := by decide +kernel
theorem dX9_strike_12 : decode cX9_strike 12 = .ok (.istore_n 2, 1) := by decide +kernel
theorem dX9_strike_13 : decode cX9_strike 13 = .ok (.iconst 0, 1) := by decide +kernel
theorem dX9_strike_14 : decode cX9_strike 14 = .ok (.istore_n 3, 1) := by decide +kernel
theorem dX9_strike_15 : decode cX9_strike 15 = .ok (.iload_n 3, 1) := by decide +kernel
theorem dX9_strike_16 : decode cX9_strike 16 = .ok (.aload_n 0, 1) := by decide +kernel
theorem dX9_strike_17 : decode cX9_strike 17 = .ok (.getfield 22, 3) := by decide +kernel
theorem dX9_strike_20 : decode cX9_strike 20 = .ok (.sipush 159, 3) := by decide +kernel
theorem dX9_strike_23 : decode cX9_strike 23 = .ok (.iaload, 1) := by decide +kernel
theorem dX9_strike_24 : decode cX9_strike 24 = .ok (.if_icmp .ge 33, 3) := by decide +kernel
theorem dX9_strike_27 : decode cX9_strike 27 = .ok (.iload_n 2, 1) := by decide +kernel
theorem dX9_strike_28 : decode cX9_strike 28 = .ok (.aload_n 0, 1) := by decide +kernel
theorem dX9_strike_29 : decode cX9_strike 29 = .ok (.getfield 22, 3) := by decide +kernel
theorem dX9_strike_32 : decode cX9_strike 32 = .ok (.sipush 160, 3) := by decide +kernel
theorem dX9_strike_35 : decode cX9_strike 35 = .ok (.iconst 3, 1) := by decide +kernel
theorem dX9_strike_36 : decode cX9_strike 36 = .ok (.iload_n 3, 1) := by decide +kernel
theorem dX9_strike_37 : decode cX9_strike 37 = .ok (.imul, 1) := by decide +kernel
theorem dX9_strike_38 : decode cX9_strike 38 = .ok (.iadd, 1) := by decide +kernel
theorem dX9_strike_39 : decode cX9_strike 39 = .ok (.iaload, 1) := by decide +kernel
theorem dX9_strike_40 : decode cX9_strike 40 = .ok (.iload_n 1, 1) := by decide +kernel
theorem dX9_strike_41 : decode cX9_strike 41 = .ok (.if_icmp .ne 7, 3) := by decide +kernel
theorem dX9_strike_44 : decode cX9_strike 44 = .ok (.iconst 1, 1) := by decide +kernel
theorem dX9_strike_45 : decode cX9_strike 45 = .ok (.goto 4, 3) := by decide +kernel
theorem dX9_strike_48 : decode cX9_strike 48 = .ok (.iconst 0, 1) := by decide +kernel
theorem dX9_strike_49 : decode cX9_strike 49 = .ok (.iadd, 1) := by decide +kernel
theorem dX9_strike_50 : decode cX9_strike 50 = .ok (.istore_n 2, 1) := by decide +kernel
theorem dX9_strike_51 : decode cX9_strike 51 = .ok (.iinc 3 1, 3) := by decide +kernel
theorem dX9_strike_54 : decode cX9_strike 54 = .ok (.goto (-39), 3) := by decide +kernel
theorem dX9_strike_57 : decode cX9_strike 57 = .ok (.iload_n 2, 1) := by decide +kernel
theorem dX9_strike_58 : decode cX9_strike 58 = .ok (.ifCond .ne 6, 3) := by decide +kernel
theorem dX9_strike_61 : decode cX9_strike 61 = .ok (.bipush (-5), 2) := by decide +kernel
theorem dX9_strike_63 : decode cX9_strike 63 = .ok (.ireturn, 1) := by decide +kernel
theorem dX9_strike_64 : decode cX9_strike 64 = .ok (.aload_n 0, 1) := by decide +kernel
theorem dX9_strike_65 : decode cX9_strike 65 = .ok (.invokevirtual 89, 3) := by decide +kernel
theorem dX9_strike_68 : decode cX9_strike 68 = .ok (.aload_n 0, 1) := by decide +kernel
theorem dX9_strike_69 : decode cX9_strike 69 = .ok (.getfield 22, 3) := by decide +kernel
theorem dX9_strike_72 : decode cX9_strike 72 = .ok (.sipush 159, 3) := by decide +kernel
theorem dX9_strike_75 : decode cX9_strike 75 = .ok (.iaload, 1) := by decide +kernel
theorem dX9_strike_76 : decode cX9_strike 76 = .ok (.iconst 1, 1) := by decide +kernel
theorem dX9_strike_77 : decode cX9_strike 77 = .ok (.isub, 1) := by decide +kernel
theorem dX9_strike_78 : decode cX9_strike 78 = .ok (.istore_n 3, 1) := by decide +kernel
theorem dX9_strike_79 : decode cX9_strike 79 = .ok (.iload_n 3, 1) := by decide +kernel
theorem dX9_strike_80 : decode cX9_strike 80 = .ok (.ifCond .lt 30, 3) := by decide +kernel
theorem dX9_strike_83 : decode cX9_strike 83 = .ok (.aload_n 0, 1) := by decide +kernel
theorem dX9_strike_84 : decode cX9_strike 84 = .ok (.getfield 22, 3) := by decide +kernel
theorem dX9_strike_87 : decode cX9_strike 87 = .ok (.sipush 160, 3) := by decide +kernel
theorem dX9_strike_90 : decode cX9_strike 90 = .ok (.iconst 3, 1) := by decide +kernel
theorem dX9_strike_91 : decode cX9_strike 91 = .ok (.iload_n 3, 1) := by decide +kernel
theorem dX9_strike_92 : decode cX9_strike 92 = .ok (.imul, 1) := by decide +kernel
theorem dX9_strike_93 : decode cX9_strike 93 = .ok (.iadd, 1) := by decide +kernel
theorem dX9_strike_94 : decode cX9_strike 94 = .ok (.iaload, 1) := by decide +kernel
theorem dX9_strike_95 : decode cX9_strike 95 = .ok (.iload_n 1, 1) := by decide +kernel
theorem dX9_strike_96 : decode cX9_strike 96 = .ok (.if_icmp .ne 8, 3) := by decide +kernel
theorem dX9_strike_99 : decode cX9_strike 99 = .ok (.aload_n 0, 1) := by decide +kernel
theorem dX9_strike_100 : decode cX9_strike 100 = .ok (.iload_n 3, 1) := by decide +kernel
theorem dX9_strike_101 : decode cX9_strike 101 = .ok (.invokevirtual 106, 3) := by decide +kernel
theorem dX9_strike_104 : decode cX9_strike 104 = .ok (.iinc 3 (-1), 3) := by decide +kernel
theorem dX9_strike_107 : decode cX9_strike 107 = .ok (.goto (-28), 3) := by decide +kernel
theorem dX9_strike_110 : decode cX9_strike 110 = .ok (.iload_n 2, 1) := by decide +kernel
theorem dX9_strike_111 : decode cX9_strike 111 = .ok (.ireturn, 1) := by decide +kernel
set_option maxRecDepth 20000 in
theorem ggX9_play_X9_in : GoodIn wsX9_play wsX9_in := goodIn_r _ [5] (by decide +kernel) (by decide +kernel)
set_option maxRecDepth 20000 in
theorem gX9_play_X9_in : GoodIn wsX9_play (va_wsS RX9 55 yX9_in wsX9_in) := goodIn_app (goodIn_of _ (by decide +kernel)) ggX9_play_X9_in
set_option maxRecDepth 20000 in
theorem ggX9_play_X9_know : GoodIn wsX9_play wsX9_know := goodIn_r _ [9, 10, 11, 1, 51, 52, 53, 54, 55, 56, 57, 58, 59, 60, 61, 62, 63, 64, 65, 66] (by decide +kernel) (by decide +kernel)
set_option maxRecDepth 20000 in
theorem gX9_play_X9_know : GoodIn wsX9_play (wsV RX9 89 RX9 yX9_know wsX9_know) := goodIn_app (goodIn_of _ (by decide +kernel)) ggX9_play_X9_know
set_option maxRecDepth 20000 in
theorem ggX9_play_X9_bowPlace : GoodIn wsX9_play wsX9_bowPlace := goodIn_r _ [14] (by decide +kernel) (by decide +kernel)
set_option maxRecDepth 20000 in
theorem gX9_play_X9_bowPlace : GoodIn wsX9_play (va_wsS RX9 74 yX9_bowPlace wsX9_bowPlace) := goodIn_app (goodIn_of _ (by decide +kernel)) ggX9_play_X9_bowPlace
set_option maxRecDepth 20000 in
theorem ggX9_play_X9_soundsAt : GoodIn wsX9_play wsX9_soundsAt := goodIn_r _ [18, 19, 20, 21, 4, 22, 1, 23, 24, 25, 26, 27, 28, 29, 30, 31, 51, 52, 53, 54, 55, 56, 57, 58, 59, 60, 61, 62, 63, 64, 65, 66] (by decide +kernel) (by decide +kernel)
set_option maxRecDepth 20000 in
theorem gX9_play_X9_soundsAt : GoodIn wsX9_play (wsV RX9 77 RX9 yX9_soundsAt wsX9_soundsAt) := goodIn_app (goodIn_of _ (by decide +kernel)) ggX9_play_X9_soundsAt
set_option maxRecDepth 20000 in
theorem ggX9_play_X9_strikeAt : GoodIn wsX9_play wsX9_strikeAt := goodIn_r _ [35, 1, 51, 52, 53, 54, 55, 56, 57, 58, 59, 60, 61, 62, 63, 64, 65, 66] (by decide +kernel) (by decide +kernel)
set_option maxRecDepth 20000 in
theorem gX9_play_X9_strikeAt : GoodIn wsX9_play (wsV RX9 106 RX9 yX9_strikeAt wsX9_strikeAt) := goodIn_app (goodIn_of _ (by decide +kernel)) ggX9_play_X9_strikeAt
set_option maxRecDepth 20000 in
theorem ggX9_play_X9_stroke : GoodIn wsX9_play wsX9_stroke := goodIn_r _ [39, 40, 1, 27, 28, 29, 4, 30, 31, 41, 42, 43, 44, 45, 46, 47, 48, 49, 50, 2, 3, 5, 51, 52, 53, 54, 55, 56, 57, 58, 59, 60, 61, 62, 63, 64, 65, 66] (by decide +kernel) (by decide +kernel)
set_option maxRecDepth 20000 in
theorem gX9_play_X9_stroke : GoodIn wsX9_play (wsV RX9 110 RX9 yX9_stroke wsX9_stroke) := goodIn_app (goodIn_of _ (by decide +kernel)) ggX9_play_X9_stroke
