/-! printed rows -/
theorem dX8_init_0 : decode cX8_init 0 = .ok (.aload_n 0, 1) := by decide +kernel
theorem dX8_init_1 : decode cX8_init 1 = .ok (.invokespecial 3, 3) := by decide +kernel
theorem dX8_init_4 : decode cX8_init 4 = .ok (.aload_n 0, 1) := by decide +kernel
theorem dX8_init_5 : decode cX8_init 5 = .ok (.new 9, 3) := by decide +kernel
theorem dX8_init_8 : decode cX8_init 8 = .ok (.dup, 1) := by decide +kernel
theorem dX8_init_9 : decode cX8_init 9 = .ok (.invokespecial 11, 3) := by decide +kernel
theorem dX8_init_12 : decode cX8_init 12 = .ok (.putfield 12, 3) := by decide +kernel
theorem dX8_init_15 : decode cX8_init 15 = .ok (.aload_n 0, 1) := by decide +kernel
theorem dX8_init_16 : decode cX8_init 16 = .ok (.new 16, 3) := by decide +kernel
theorem dX8_init_19 : decode cX8_init 19 = .ok (.dup, 1) := by decide +kernel
theorem dX8_init_20 : decode cX8_init 20 = .ok (.invokespecial 18, 3) := by decide +kernel
theorem dX8_init_23 : decode cX8_init 23 = .ok (.putfield 19, 3) := by decide +kernel
theorem dX8_init_26 : decode cX8_init 26 = .ok (.aload_n 0, 1) := by decide +kernel
theorem dX8_init_27 : decode cX8_init 27 = .ok (.new 23, 3) := by decide +kernel
theorem dX8_init_30 : decode cX8_init 30 = .ok (.dup, 1) := by decide +kernel
theorem dX8_init_31 : decode cX8_init 31 = .ok (.aload_n 0, 1) := by decide +kernel
theorem dX8_init_32 : decode cX8_init 32 = .ok (.getfield 12, 3) := by decide +kernel
theorem dX8_init_35 : decode cX8_init 35 = .ok (.aload_n 0, 1) := by decide +kernel
theorem dX8_init_36 : decode cX8_init 36 = .ok (.getfield 19, 3) := by decide +kernel
theorem dX8_init_39 : decode cX8_init 39 = .ok (.invokespecial 25, 3) := by decide +kernel
theorem dX8_init_42 : decode cX8_init 42 = .ok (.putfield 28, 3) := by decide +kernel
theorem dX8_init_45 : decode cX8_init 45 = .ok (.aload_n 0, 1) := by decide +kernel
theorem dX8_init_46 : decode cX8_init 46 = .ok (.new 32, 3) := by decide +kernel
theorem dX8_init_49 : decode cX8_init 49 = .ok (.dup, 1) := by decide +kernel
theorem dX8_init_50 : decode cX8_init 50 = .ok (.aload_n 0, 1) := by decide +kernel
theorem dX8_init_51 : decode cX8_init 51 = .ok (.getfield 12, 3) := by decide +kernel
theorem dX8_init_54 : decode cX8_init 54 = .ok (.aload_n 0, 1) := by decide +kernel
theorem dX8_init_55 : decode cX8_init 55 = .ok (.getfield 19, 3) := by decide +kernel
theorem dX8_init_58 : decode cX8_init 58 = .ok (.invokespecial 34, 3) := by decide +kernel
theorem dX8_init_61 : decode cX8_init 61 = .ok (.putfield 35, 3) := by decide +kernel
theorem dX8_init_64 : decode cX8_init 64 = .ok (.aload_n 0, 1) := by decide +kernel
theorem dX8_init_65 : decode cX8_init 65 = .ok (.new 39, 3) := by decide +kernel
theorem dX8_init_68 : decode cX8_init 68 = .ok (.dup, 1) := by decide +kernel
theorem dX8_init_69 : decode cX8_init 69 = .ok (.aload_n 0, 1) := by decide +kernel
theorem dX8_init_70 : decode cX8_init 70 = .ok (.getfield 12, 3) := by decide +kernel
theorem dX8_init_73 : decode cX8_init 73 = .ok (.aload_n 0, 1) := by decide +kernel
theorem dX8_init_74 : decode cX8_init 74 = .ok (.getfield 19, 3) := by decide +kernel
theorem dX8_init_77 : decode cX8_init 77 = .ok (.invokespecial 41, 3) := by decide +kernel
theorem dX8_init_80 : decode cX8_init 80 = .ok (.putfield 42, 3) := by decide +kernel
theorem dX8_init_83 : decode cX8_init 83 = .ok (.aload_n 0, 1) := by decide +kernel
theorem dX8_init_84 : decode cX8_init 84 = .ok (.new 46, 3) := by decide +kernel
theorem dX8_init_87 : decode cX8_init 87 = .ok (.dup, 1) := by decide +kernel
theorem dX8_init_88 : decode cX8_init 88 = .ok (.invokespecial 48, 3) := by decide +kernel
theorem dX8_init_91 : decode cX8_init 91 = .ok (.putfield 49, 3) := by decide +kernel
theorem dX8_init_94 : decode cX8_init 94 = .ok (.aload_n 0, 1) := by decide +kernel
theorem dX8_init_95 : decode cX8_init 95 = .ok (.new 53, 3) := by decide +kernel
theorem dX8_init_98 : decode cX8_init 98 = .ok (.dup, 1) := by decide +kernel
theorem dX8_init_99 : decode cX8_init 99 = .ok (.invokespecial 55, 3) := by decide +kernel
theorem dX8_init_102 : decode cX8_init 102 = .ok (.putfield 56, 3) := by decide +kernel
theorem dX8_init_105 : decode cX8_init 105 = .ok (.aload_n 0, 1) := by decide +kernel
theorem dX8_init_106 : decode cX8_init 106 = .ok (.new 16, 3) := by decide +kernel
theorem dX8_init_109 : decode cX8_init 109 = .ok (.dup, 1) := by decide +kernel
theorem dX8_init_110 : decode cX8_init 110 = .ok (.invokespecial 18, 3) := by decide +kernel
theorem dX8_init_113 : decode cX8_init 113 = .ok (.putfield 60, 3) := by decide +kernel
theorem dX8_init_116 : decode cX8_init 116 = .ok (.aload_n 0, 1) := by decide +kernel
theorem dX8_init_117 : decode cX8_init 117 = .ok (.iconst 0, 1) := by decide +kernel
theorem dX8_init_118 : decode cX8_init 118 = .ok (.putfield 63, 3) := by decide +kernel
theorem dX8_init_121 : decode cX8_init 121 = .ok (.return_, 1) := by decide +kernel
theorem dX8_strew_0 : decode cX8_strew 0 = .ok (.iload_n 1, 1) := by decide +kernel
theorem dX8_strew_1 : decode cX8_strew 1 = .ok (.iload_n 2, 1) := by decide +kernel
theorem dX8_strew_2 : decode cX8_strew 2 = .ok (.invokestatic 67, 3) := by decide +kernel
theorem dX8_strew_5 : decode cX8_strew 5 = .ok (.ifCond .ne 5, 3) := by decide +kernel
theorem dX8_strew_8 : decode cX8_strew 8 = .ok (.iconst (-1), 1) := by decide +kernel
theorem dX8_strew_9 : decode cX8_strew 9 = .ok (.ireturn, 1) := by decide +kernel
theorem dX8_strew_10 : decode cX8_strew 10 = .ok (.iload_n 3, 1) := by decide +kernel
theorem dX8_strew_11 : decode cX8_strew 11 = .ok (.iconst 1, 1) := by decide +kernel
theorem dX8_strew_12 : decode cX8_strew 12 = .ok (.if_icmp .lt 9, 3) := by decide +kernel
theorem dX8_strew_15 : decode cX8_strew 15 = .ok (.iload_n 3, 1) := by decide +kernel
theorem dX8_strew_16 : decode cX8_strew 16 = .ok (.bipush 99, 2) := by decide +kernel
theorem dX8_strew_18 : decode cX8_strew 18 = .ok (.if_icmp .le 6, 3) := by decide +kernel
theorem dX8_strew_21 : decode cX8_strew 21 = .ok (.bipush (-2), 2) := by decide +kernel
theorem dX8_strew_23 : decode cX8_strew 23 = .ok (.ireturn, 1) := by decide +kernel
theorem dX8_strew_24 : decode cX8_strew 24 = .ok (.aload_n 0, 1) := by decide +kernel
theorem dX8_strew_25 : decode cX8_strew 25 = .ok (.getfield 56, 3) := by decide +kernel
theorem dX8_strew_28 : decode cX8_strew 28 = .ok (.aload_n 0, 1) := by decide +kernel
theorem dX8_strew_29 : decode cX8_strew 29 = .ok (.getfield 19, 3) := by decide +kernel
theorem dX8_strew_32 : decode cX8_strew 32 = .ok (.invokevirtual 71, 3) := by decide +kernel
theorem dX8_strew_35 : decode cX8_strew 35 = .ok (.iload_n 1, 1) := by decide +kernel
theorem dX8_strew_36 : decode cX8_strew 36 = .ok (.iload_n 2, 1) := by decide +kernel
theorem dX8_strew_37 : decode cX8_strew 37 = .ok (.invokestatic 75, 3) := by decide +kernel
theorem dX8_strew_40 : decode cX8_strew 40 = .ok (.istore 4, 2) := by decide +kernel
theorem dX8_strew_42 : decode cX8_strew 42 = .ok (.aload_n 0, 1) := by decide +kernel
theorem dX8_strew_43 : decode cX8_strew 43 = .ok (.getfield 19, 3) := by decide +kernel
theorem dX8_strew_46 : decode cX8_strew 46 = .ok (.getfield 79, 3) := by decide +kernel
theorem dX8_strew_49 : decode cX8_strew 49 = .ok (.iload 4, 2) := by decide +kernel
theorem dX8_strew_51 : decode cX8_strew 51 = .ok (.dup2, 1) := by decide +kernel
theorem dX8_strew_52 : decode cX8_strew 52 = .ok (.iaload, 1) := by decide +kernel
theorem dX8_strew_53 : decode cX8_strew 53 = .ok (.iload_n 3, 1) := by decide +kernel
theorem dX8_strew_54 : decode cX8_strew 54 = .ok (.iadd, 1) := by decide +kernel
theorem dX8_strew_55 : decode cX8_strew 55 = .ok (.iastore, 1) := by decide +kernel
theorem dX8_strew_56 : decode cX8_strew 56 = .ok (.aload_n 0, 1) := by decide +kernel
theorem dX8_strew_57 : decode cX8_strew 57 = .ok (.getfield 19, 3) := by decide +kernel
theorem dX8_strew_60 : decode cX8_strew 60 = .ok (.dup, 1) := by decide +kernel
theorem dX8_strew_61 : decode cX8_strew 61 = .ok (.getfield 83, 3) := by decide +kernel
theorem dX8_strew_64 : decode cX8_strew 64 = .ok (.iload_n 3, 1) := by decide +kernel
theorem dX8_strew_65 : decode cX8_strew 65 = .ok (.iadd, 1) := by decide +kernel
theorem dX8_strew_66 : decode cX8_strew 66 = .ok (.putfield 83, 3) := by decide +kernel
theorem dX8_strew_69 : decode cX8_strew 69 = .ok (.aload_n 0, 1) := by decide +kernel
theorem dX8_strew_70 : decode cX8_strew 70 = .ok (.getfield 19, 3) := by decide +kernel
theorem dX8_strew_73 : decode cX8_strew 73 = .ok (.getfield 79, 3) := by decide +kernel
theorem dX8_strew_76 : decode cX8_strew 76 = .ok (.iload 4, 2) := by decide +kernel
theorem dX8_strew_78 : decode cX8_strew 78 = .ok (.iaload, 1) := by decide +kernel
theorem dX8_strew_79 : decode cX8_strew 79 = .ok (.ireturn, 1) := by decide +kernel
theorem dX8_sweep_0 : decode cX8_sweep 0 = .ok (.iload_n 1, 1) := by decide +kernel
theorem dX8_sweep_1 : decode cX8_sweep 1 = .ok (.ifCond .lt 9, 3) := by decide +kernel
theorem dX8_sweep_4 : decode cX8_sweep 4 = .ok (.iload_n 1, 1) := by decide +kernel
theorem dX8_sweep_5 : decode cX8_sweep 5 = .ok (.bipush 99, 2) := by decide +kernel
theorem dX8_sweep_7 : decode cX8_sweep 7 = .ok (.if_icmp .le 6, 3) := by decide +kernel
theorem dX8_sweep_10 : decode cX8_sweep 10 = .ok (.bipush (-2), 2) := by decide +kernel
theorem dX8_sweep_12 : decode cX8_sweep 12 = .ok (.ireturn, 1) := by decide +kernel
theorem dX8_sweep_13 : decode cX8_sweep 13 = .ok (.aload_n 0, 1) := by decide +kernel
theorem dX8_sweep_14 : decode cX8_sweep 14 = .ok (.getfield 56, 3) := by decide +kernel
theorem dX8_sweep_17 : decode cX8_sweep 17 = .ok (.aload_n 0, 1) := by decide +kernel
theorem dX8_sweep_18 : decode cX8_sweep 18 = .ok (.getfield 19, 3) := by decide +kernel
theorem dX8_sweep_21 : decode cX8_sweep 21 = .ok (.invokevirtual 71, 3) := by decide +kernel
theorem dX8_sweep_24 : decode cX8_sweep 24 = .ok (.aload_n 0, 1) := by decide +kernel
theorem dX8_sweep_25 : decode cX8_sweep 25 = .ok (.getfield 19, 3) := by decide +kernel
theorem dX8_sweep_28 : decode cX8_sweep 28 = .ok (.invokevirtual 87, 3) := by decide +kernel
theorem dX8_sweep_31 : decode cX8_sweep 31 = .ok (.istore_n 2, 1) := by decide +kernel
theorem dX8_sweep_32 : decode cX8_sweep 32 = .ok (.aload_n 0, 1) := by decide +kernel
theorem dX8_sweep_33 : decode cX8_sweep 33 = .ok (.getfield 19, 3) := by decide +kernel
theorem dX8_sweep_36 : decode cX8_sweep 36 = .ok (.dup, 1) := by decide +kernel
theorem dX8_sweep_37 : decode cX8_sweep 37 = .ok (.getfield 91, 3) := by decide +kernel
theorem dX8_sweep_40 : decode cX8_sweep 40 = .ok (.iload_n 2, 1) := by decide +kernel
theorem dX8_sweep_41 : decode cX8_sweep 41 = .ok (.iadd, 1) := by decide +kernel
theorem dX8_sweep_42 : decode cX8_sweep 42 = .ok (.putfield 91, 3) := by decide +kernel
theorem dX8_sweep_45 : decode cX8_sweep 45 = .ok (.aload_n 0, 1) := by decide +kernel
theorem dX8_sweep_46 : decode cX8_sweep 46 = .ok (.getfield 19, 3) := by decide +kernel
theorem dX8_sweep_49 : decode cX8_sweep 49 = .ok (.dup, 1) := by decide +kernel
theorem dX8_sweep_50 : decode cX8_sweep 50 = .ok (.getfield 83, 3) := by decide +kernel
theorem dX8_sweep_53 : decode cX8_sweep 53 = .ok (.sipush 144, 3) := by decide +kernel
theorem dX8_sweep_56 : decode cX8_sweep 56 = .ok (.iload_n 1, 1) := by decide +kernel
theorem dX8_sweep_57 : decode cX8_sweep 57 = .ok (.imul, 1) := by decide +kernel
theorem dX8_sweep_58 : decode cX8_sweep 58 = .ok (.iadd, 1) := by decide +kernel
theorem dX8_sweep_59 : decode cX8_sweep 59 = .ok (.putfield 83, 3) := by decide +kernel
theorem dX8_sweep_62 : decode cX8_sweep 62 = .ok (.aload_n 0, 1) := by decide +kernel
theorem dX8_sweep_63 : decode cX8_sweep 63 = .ok (.getfield 19, 3) := by decide +kernel
theorem dX8_sweep_66 : decode cX8_sweep 66 = .ok (.iload_n 1, 1) := by decide +kernel
theorem dX8_sweep_67 : decode cX8_sweep 67 = .ok (.invokevirtual 94, 3) := by decide +kernel
theorem dX8_sweep_70 : decode cX8_sweep 70 = .ok (.iload_n 2, 1) := by decide +kernel
theorem dX8_sweep_71 : decode cX8_sweep 71 = .ok (.ireturn, 1) := by decide +kernel
theorem dX8_clamp_0 : decode cX8_clamp 0 = .ok (.iload_n 1, 1) := by decide +kernel
theorem dX8_clamp_1 : decode cX8_clamp 1 = .ok (.iload_n 2, 1) := by decide +kernel
theorem dX8_clamp_2 : decode cX8_clamp 2 = .ok (.invokestatic 67, 3) := by decide +kernel
theorem dX8_clamp_5 : decode cX8_clamp 5 = .ok (.ifCond .ne 5, 3) := by decide +kernel
theorem dX8_clamp_8 : decode cX8_clamp 8 = .ok (.iconst (-1), 1) := by decide +kernel
theorem dX8_clamp_9 : decode cX8_clamp 9 = .ok (.ireturn, 1) := by decide +kernel
theorem dX8_clamp_10 : decode cX8_clamp 10 = .ok (.aload_n 0, 1) := by decide +kernel
theorem dX8_clamp_11 : decode cX8_clamp 11 = .ok (.getfield 19, 3) := by decide +kernel
theorem dX8_clamp_14 : decode cX8_clamp 14 = .ok (.getfield 98, 3) := by decide +kernel
theorem dX8_clamp_17 : decode cX8_clamp 17 = .ok (.iconst 4, 1) := by decide +kernel
theorem dX8_clamp_18 : decode cX8_clamp 18 = .ok (.if_icmp .lt 6, 3) := by decide +kernel
theorem dX8_clamp_21 : decode cX8_clamp 21 = .ok (.bipush (-3), 2) := by decide +kernel
theorem dX8_clamp_23 : decode cX8_clamp 23 = .ok (.ireturn, 1) := by decide +kernel
theorem dX8_clamp_24 : decode cX8_clamp 24 = .ok (.aload_n 0, 1) := by decide +kernel
theorem dX8_clamp_25 : decode cX8_clamp 25 = .ok (.getfield 19, 3) := by decide +kernel
theorem dX8_clamp_28 : decode cX8_clamp 28 = .ok (.iload_n 1, 1) := by decide +kernel
theorem dX8_clamp_29 : decode cX8_clamp 29 = .ok (.iload_n 2, 1) := by decide +kernel
theorem dX8_clamp_30 : decode cX8_clamp 30 = .ok (.invokevirtual 101, 3) := by decide +kernel
theorem dX8_clamp_33 : decode cX8_clamp 33 = .ok (.ifCond .lt 6, 3) := by decide +kernel
theorem dX8_clamp_36 : decode cX8_clamp 36 = .ok (.bipush (-5), 2) := by decide +kernel
theorem dX8_clamp_38 : decode cX8_clamp 38 = .ok (.ireturn, 1) := by decide +kernel
theorem dX8_clamp_39 : decode cX8_clamp 39 = .ok (.aload_n 0, 1) := by decide +kernel
theorem dX8_clamp_40 : decode cX8_clamp 40 = .ok (.getfield 56, 3) := by decide +kernel
theorem dX8_clamp_43 : decode cX8_clamp 43 = .ok (.aload_n 0, 1) := by decide +kernel
theorem dX8_clamp_44 : decode cX8_clamp 44 = .ok (.getfield 19, 3) := by decide +kernel
theorem dX8_clamp_47 : decode cX8_clamp 47 = .ok (.invokevirtual 71, 3) := by decide +kernel
theorem dX8_clamp_50 : decode cX8_clamp 50 = .ok (.aload_n 0, 1) := by decide +kernel
theorem dX8_clamp_51 : decode cX8_clamp 51 = .ok (.getfield 19, 3) := by decide +kernel
theorem dX8_clamp_54 : decode cX8_clamp 54 = .ok (.getfield 104, 3) := by decide +kernel
theorem dX8_clamp_57 : decode cX8_clamp 57 = .ok (.aload_n 0, 1) := by decide +kernel
theorem dX8_clamp_58 : decode cX8_clamp 58 = .ok (.getfield 19, 3) := by decide +kernel
theorem dX8_clamp_61 : decode cX8_clamp 61 = .ok (.getfield 98, 3) := by decide +kernel
theorem dX8_clamp_64 : decode cX8_clamp 64 = .ok (.iload_n 1, 1) := by decide +kernel
theorem dX8_clamp_65 : decode cX8_clamp 65 = .ok (.iastore, 1) := by decide +kernel
theorem dX8_clamp_66 : decode cX8_clamp 66 = .ok (.aload_n 0, 1) := by decide +kernel
theorem dX8_clamp_67 : decode cX8_clamp 67 = .ok (.getfield 19, 3) := by decide +kernel
theorem dX8_clamp_70 : decode cX8_clamp 70 = .ok (.getfield 107, 3) := by decide +kernel
theorem dX8_clamp_73 : decode cX8_clamp 73 = .ok (.aload_n 0, 1) := by decide +kernel
theorem dX8_clamp_74 : decode cX8_clamp 74 = .ok (.getfield 19, 3) := by decide +kernel
theorem dX8_clamp_77 : decode cX8_clamp 77 = .ok (.getfield 98, 3) := by decide +kernel
theorem dX8_clamp_80 : decode cX8_clamp 80 = .ok (.iload_n 2, 1) := by decide +kernel
theorem dX8_clamp_81 : decode cX8_clamp 81 = .ok (.iastore, 1) := by decide +kernel
theorem dX8_clamp_82 : decode cX8_clamp 82 = .ok (.aload_n 0, 1) := by decide +kernel
theorem dX8_clamp_83 : decode cX8_clamp 83 = .ok (.getfield 19, 3) := by decide +kernel
theorem dX8_clamp_86 : decode cX8_clamp 86 = .ok (.dup, 1) := by decide +kernel
theorem dX8_clamp_87 : decode cX8_clamp 87 = .ok (.getfield 98, 3) := by decide +kernel
theorem dX8_clamp_90 : decode cX8_clamp 90 = .ok (.iconst 1, 1) := by decide +kernel
theorem dX8_clamp_91 : decode cX8_clamp 91 = .ok (.iadd, 1) := by decide +kernel
theorem dX8_clamp_92 : decode cX8_clamp 92 = .ok (.putfield 98, 3) := by decide +kernel
theorem dX8_clamp_95 : decode cX8_clamp 95 = .ok (.aload_n 0, 1) := by decide +kernel
theorem dX8_clamp_96 : decode cX8_clamp 96 = .ok (.getfield 19, 3) := by decide +kernel
theorem dX8_clamp_99 : decode cX8_clamp 99 = .ok (.getfield 98, 3) := by decide +kernel
theorem dX8_clamp_102 : decode cX8_clamp 102 = .ok (.ireturn, 1) := by decide +kernel
theorem dX8_unclamp_0 : decode cX8_unclamp 0 = .ok (.aload_n 0, 1) := by decide +kernel
theorem dX8_unclamp_1 : decode cX8_unclamp 1 = .ok (.iload_n 1, 1) := by decide +kernel
theorem dX8_unclamp_2 : decode cX8_unclamp 2 = .ok (.invokevirtual 110, 3) := by decide +kernel
theorem dX8_unclamp_5 : decode cX8_unclamp 5 = .ok (.ifCond .ne 5, 3) := by decide +kernel
theorem dX8_unclamp_8 : decode cX8_unclamp 8 = .ok (.iconst (-1), 1) := by decide +kernel
theorem dX8_unclamp_9 : decode cX8_unclamp 9 = .ok (.ireturn, 1) := by decide +kernel
theorem dX8_unclamp_10 : decode cX8_unclamp 10 = .ok (.aload_n 0, 1) := by decide +kernel
theorem dX8_unclamp_11 : decode cX8_unclamp 11 = .ok (.getfield 56, 3) := by decide +kernel
theorem dX8_unclamp_14 : decode cX8_unclamp 14 = .ok (.aload_n 0, 1) := by decide +kernel
theorem dX8_unclamp_15 : decode cX8_unclamp 15 = .ok (.getfield 19, 3) := by decide +kernel
theorem dX8_unclamp_18 : decode cX8_unclamp 18 = .ok (.invokevirtual 71, 3) := by decide +kernel
theorem dX8_unclamp_21 : decode cX8_unclamp 21 = .ok (.aload_n 0, 1) := by decide +kernel
theorem dX8_unclamp_22 : decode cX8_unclamp 22 = .ok (.getfield 19, 3) := by decide +kernel
theorem dX8_unclamp_25 : decode cX8_unclamp 25 = .ok (.iload_n 1, 1) := by decide +kernel
theorem dX8_unclamp_26 : decode cX8_unclamp 26 = .ok (.invokevirtual 114, 3) := by decide +kernel
theorem dX8_unclamp_29 : decode cX8_unclamp 29 = .ok (.aload_n 0, 1) := by decide +kernel
theorem dX8_unclamp_30 : decode cX8_unclamp 30 = .ok (.getfield 19, 3) := by decide +kernel
theorem dX8_unclamp_33 : decode cX8_unclamp 33 = .ok (.getfield 98, 3) := by decide +kernel
theorem dX8_unclamp_36 : decode cX8_unclamp 36 = .ok (.ireturn, 1) := by decide +kernel
theorem dX8_set_0 : decode cX8_set 0 = .ok (.iload_n 1, 1) := by decide +kernel
theorem dX8_set_1 : decode cX8_set 1 = .ok (.ifCond .lt 8, 3) := by decide +kernel
theorem dX8_set_4 : decode cX8_set 4 = .ok (.iload_n 1, 1) := by decide +kernel
theorem dX8_set_5 : decode cX8_set 5 = .ok (.iconst 4, 1) := by decide +kernel
theorem dX8_set_6 : decode cX8_set 6 = .ok (.if_icmp .lt 6, 3) := by decide +kernel
theorem dX8_set_9 : decode cX8_set 9 = .ok (.bipush (-2), 2) := by decide +kernel
theorem dX8_set_11 : decode cX8_set 11 = .ok (.ireturn, 1) := by decide +kernel
theorem dX8_set_12 : decode cX8_set 12 = .ok (.iload_n 2, 1) := by decide +kernel
theorem dX8_set_13 : decode cX8_set 13 = .ok (.getstatic 117, 3) := by decide +kernel
theorem dX8_set_16 : decode cX8_set 16 = .ok (.iload_n 1, 1) := by decide +kernel
theorem dX8_set_17 : decode cX8_set 17 = .ok (.iaload, 1) := by decide +kernel
theorem dX8_set_18 : decode cX8_set 18 = .ok (.if_icmp .lt 12, 3) := by decide +kernel
theorem dX8_set_21 : decode cX8_set 21 = .ok (.iload_n 2, 1) := by decide +kernel
theorem dX8_set_22 : decode cX8_set 22 = .ok (.getstatic 120, 3) := by decide +kernel
theorem dX8_set_25 : decode cX8_set 25 = .ok (.iload_n 1, 1) := by decide +kernel
theorem dX8_set_26 : decode cX8_set 26 = .ok (.iaload, 1) := by decide +kernel
theorem dX8_set_27 : decode cX8_set 27 = .ok (.if_icmp .le 6, 3) := by decide +kernel
theorem dX8_set_30 : decode cX8_set 30 = .ok (.bipush (-2), 2) := by decide +kernel
theorem dX8_set_32 : decode cX8_set 32 = .ok (.ireturn, 1) := by decide +kernel
theorem dX8_set_33 : decode cX8_set 33 = .ok (.aload_n 0, 1) := by decide +kernel
theorem dX8_set_34 : decode cX8_set 34 = .ok (.getfield 19, 3) := by decide +kernel
theorem dX8_set_37 : decode cX8_set 37 = .ok (.getfield 123, 3) := by decide +kernel
theorem dX8_set_40 : decode cX8_set 40 = .ok (.iload_n 1, 1) := by decide +kernel
theorem dX8_set_41 : decode cX8_set 41 = .ok (.iaload, 1) := by decide +kernel
theorem dX8_set_42 : decode cX8_set 42 = .ok (.istore_n 3, 1) := by decide +kernel
theorem dX8_set_43 : decode cX8_set 43 = .ok (.iload_n 2, 1) := by decide +kernel
theorem dX8_set_44 : decode cX8_set 44 = .ok (.iload_n 3, 1) := by decide +kernel
theorem dX8_set_45 : decode cX8_set 45 = .ok (.if_icmp .ne 6, 3) := by decide +kernel
theorem dX8_set_48 : decode cX8_set 48 = .ok (.bipush (-5), 2) := by decide +kernel
theorem dX8_set_50 : decode cX8_set 50 = .ok (.ireturn, 1) := by decide +kernel
theorem dX8_set_51 : decode cX8_set 51 = .ok (.aload_n 0, 1) := by decide +kernel
theorem dX8_set_52 : decode cX8_set 52 = .ok (.getfield 56, 3) := by decide +kernel
theorem dX8_set_55 : decode cX8_set 55 = .ok (.aload_n 0, 1) := by decide +kernel
theorem dX8_set_56 : decode cX8_set 56 = .ok (.getfield 19, 3) := by decide +kernel
theorem dX8_set_59 : decode cX8_set 59 = .ok (.invokevirtual 71, 3) := by decide +kernel
theorem dX8_set_62 : decode cX8_set 62 = .ok (.aload_n 0, 1) := by decide +kernel
theorem dX8_set_63 : decode cX8_set 63 = .ok (.getfield 19, 3) := by decide +kernel
theorem dX8_set_66 : decode cX8_set 66 = .ok (.getfield 123, 3) := by decide +kernel
theorem dX8_set_69 : decode cX8_set 69 = .ok (.iload_n 1, 1) := by decide +kernel
theorem dX8_set_70 : decode cX8_set 70 = .ok (.iload_n 2, 1) := by decide +kernel
theorem dX8_set_71 : decode cX8_set 71 = .ok (.iastore, 1) := by decide +kernel
theorem dX8_set_72 : decode cX8_set 72 = .ok (.iload_n 3, 1) := by decide +kernel
theorem dX8_set_73 : decode cX8_set 73 = .ok (.ireturn, 1) := by decide +kernel
theorem dX8_bow_0 : decode cX8_bow 0 = .ok (.iload_n 1, 1) := by decide +kernel
theorem dX8_bow_1 : decode cX8_bow 1 = .ok (.iload_n 2, 1) := by decide +kernel
theorem dX8_bow_2 : decode cX8_bow 2 = .ok (.invokestatic 126, 3) := by decide +kernel
theorem dX8_bow_5 : decode cX8_bow 5 = .ok (.ifCond .ne 5, 3) := by decide +kernel
theorem dX8_bow_8 : decode cX8_bow 8 = .ok (.iconst (-1), 1) := by decide +kernel
theorem dX8_bow_9 : decode cX8_bow 9 = .ok (.ireturn, 1) := by decide +kernel
theorem dX8_bow_10 : decode cX8_bow 10 = .ok (.iload_n 3, 1) := by decide +kernel
theorem dX8_bow_11 : decode cX8_bow 11 = .ok (.iconst 1, 1) := by decide +kernel
theorem dX8_bow_12 : decode cX8_bow 12 = .ok (.if_icmp .lt 9, 3) := by decide +kernel
theorem dX8_bow_15 : decode cX8_bow 15 = .ok (.iload_n 3, 1) := by decide +kernel
theorem dX8_bow_16 : decode cX8_bow 16 = .ok (.bipush 20, 2) := by decide +kernel
theorem dX8_bow_18 : decode cX8_bow 18 = .ok (.if_icmp .le 6, 3) := by decide +kernel
theorem dX8_bow_21 : decode cX8_bow 21 = .ok (.bipush (-2), 2) := by decide +kernel
theorem dX8_bow_23 : decode cX8_bow 23 = .ok (.ireturn, 1) := by decide +kernel
theorem dX8_bow_24 : decode cX8_bow 24 = .ok (.aload_n 0, 1) := by decide +kernel
theorem dX8_bow_25 : decode cX8_bow 25 = .ok (.getfield 19, 3) := by decide +kernel
theorem dX8_bow_28 : decode cX8_bow 28 = .ok (.getfield 129, 3) := by decide +kernel
theorem dX8_bow_31 : decode cX8_bow 31 = .ok (.getfield 133, 3) := by decide +kernel
theorem dX8_bow_34 : decode cX8_bow 34 = .ok (.bipush 16, 2) := by decide +kernel
theorem dX8_bow_36 : decode cX8_bow 36 = .ok (.if_icmp .lt 6, 3) := by decide +kernel
theorem dX8_bow_39 : decode cX8_bow 39 = .ok (.bipush (-3), 2) := by decide +kernel
theorem dX8_bow_41 : decode cX8_bow 41 = .ok (.ireturn, 1) := by decide +kernel
theorem dX8_bow_42 : decode cX8_bow 42 = .ok (.aload_n 0, 1) := by decide +kernel
theorem dX8_bow_43 : decode cX8_bow 43 = .ok (.getfield 56, 3) := by decide +kernel
theorem dX8_bow_46 : decode cX8_bow 46 = .ok (.aload_n 0, 1) := by decide +kernel
theorem dX8_bow_47 : decode cX8_bow 47 = .ok (.getfield 19, 3) := by decide +kernel
theorem dX8_bow_50 : decode cX8_bow 50 = .ok (.invokevirtual 71, 3) := by decide +kernel
theorem dX8_bow_53 : decode cX8_bow 53 = .ok (.aload_n 0, 1) := by decide +kernel
theorem dX8_bow_54 : decode cX8_bow 54 = .ok (.getfield 19, 3) := by decide +kernel
theorem dX8_bow_57 : decode cX8_bow 57 = .ok (.getfield 129, 3) := by decide +kernel
theorem dX8_bow_60 : decode cX8_bow 60 = .ok (.iload_n 1, 1) := by decide +kernel
theorem dX8_bow_61 : decode cX8_bow 61 = .ok (.iload_n 2, 1) := by decide +kernel
theorem dX8_bow_62 : decode cX8_bow 62 = .ok (.iload_n 3, 1) := by decide +kernel
theorem dX8_bow_63 : decode cX8_bow 63 = .ok (.invokevirtual 138, 3) := by decide +kernel
theorem dX8_bow_66 : decode cX8_bow 66 = .ok (.aload_n 0, 1) := by decide +kernel
theorem dX8_bow_67 : decode cX8_bow 67 = .ok (.getfield 19, 3) := by decide +kernel
theorem dX8_bow_70 : decode cX8_bow 70 = .ok (.getfield 129, 3) := by decide +kernel
theorem dX8_bow_73 : decode cX8_bow 73 = .ok (.getfield 133, 3) := by decide +kernel
theorem dX8_bow_76 : decode cX8_bow 76 = .ok (.ireturn, 1) := by decide +kernel
theorem dX8_strike_0 : decode cX8_strike 0 = .ok (.iload_n 1, 1) := by decide +kernel
theorem dX8_strike_1 : decode cX8_strike 1 = .ok (.ifCond .lt 8, 3) := by decide +kernel
theorem dX8_strike_4 : decode cX8_strike 4 = .ok (.iload_n 1, 1) := by decide +kernel
theorem dX8_strike_5 : decode cX8_strike 5 = .ok (.iconst 4, 1) := by decide +kernel
theorem dX8_strike_6 : decode cX8_strike 6 = .ok (.if_icmp .lt 5, 3) := by decide +kernel
theorem dX8_strike_9 : decode cX8_strike 9 = .ok (.iconst (-1), 1) := by decide +kernel
theorem dX8_strike_10 : decode cX8_strike 10 = .ok (.ireturn, 1) := by decide +kernel
theorem dX8_strike_11 : decode cX8_strike 11 = .ok (.aload_n 0, 1) := by decide +kernel
theorem dX8_strike_12 : decode cX8_strike 12 = .ok (.getfield 19, 3) := by decide +kernel
theorem dX8_strike_15 : decode cX8_strike 15 = .ok (.getfield 129, 3) := by decide +kernel
theorem dX8_strike_18 : decode cX8_strike 18 = .ok (.iload_n 1, 1) := by decide +kernel
theorem dX8_strike_19 : decode cX8_strike 19 = .ok (.invokevirtual 154, 3) := by decide +kernel
theorem dX8_strike_22 : decode cX8_strike 22 = .ok (.ifCond .ne 6, 3) := by decide +kernel
theorem dX8_strike_25 : decode cX8_strike 25 = .ok (.bipush (-5), 2) := by decide +kernel
theorem dX8_strike_27 : decode cX8_strike 27 = .ok (.ireturn, 1) := by decide +kernel
theorem dX8_strike_28 : decode cX8_strike 28 = .ok (.aload_n 0, 1) := by decide +kernel
theorem dX8_strike_29 : decode cX8_strike 29 = .ok (.getfield 56, 3) := by decide +kernel
theorem dX8_strike_32 : decode cX8_strike 32 = .ok (.aload_n 0, 1) := by decide +kernel
theorem dX8_strike_33 : decode cX8_strike 33 = .ok (.getfield 19, 3) := by decide +kernel
theorem dX8_strike_36 : decode cX8_strike 36 = .ok (.invokevirtual 71, 3) := by decide +kernel
theorem dX8_strike_39 : decode cX8_strike 39 = .ok (.aload_n 0, 1) := by decide +kernel
theorem dX8_strike_40 : decode cX8_strike 40 = .ok (.getfield 19, 3) := by decide +kernel
theorem dX8_strike_43 : decode cX8_strike 43 = .ok (.getfield 129, 3) := by decide +kernel
theorem dX8_strike_46 : decode cX8_strike 46 = .ok (.iload_n 1, 1) := by decide +kernel
theorem dX8_strike_47 : decode cX8_strike 47 = .ok (.invokevirtual 158, 3) := by decide +kernel
theorem dX8_strike_50 : decode cX8_strike 50 = .ok (.ireturn, 1) := by decide +kernel
theorem dX8_play_0 : decode cX8_play 0 = .ok (.iload_n 1, 1) := by decide +kernel
theorem dX8_play_1 : decode cX8_play 1 = .ok (.iconst 1, 1) := by decide +kernel
theorem dX8_play_2 : decode cX8_play 2 = .ok (.if_icmp .lt 9, 3) := by decide +kernel
theorem dX8_play_5 : decode cX8_play 5 = .ok (.iload_n 1, 1) := by decide +kernel
theorem dX8_play_6 : decode cX8_play 6 = .ok (.bipush 16, 2) := by decide +kernel
theorem dX8_play_8 : decode cX8_play 8 = .ok (.if_icmp .le 6, 3) := by decide +kernel
theorem dX8_play_11 : decode cX8_play 11 = .ok (.bipush (-2), 2) := by decide +kernel
theorem dX8_play_13 : decode cX8_play 13 = .ok (.ireturn, 1) := by decide +kernel
theorem dX8_play_14 : decode cX8_play 14 = .ok (.iload_n 1, 1) := by decide +kernel
theorem dX8_play_15 : decode cX8_play 15 = .ok (.aload_n 0, 1) := by decide +kernel
theorem dX8_play_16 : decode cX8_play 16 = .ok (.getfield 19, 3) := by decide +kernel
theorem dX8_play_19 : decode cX8_play 19 = .ok (.getfield 129, 3) := by decide +kernel
theorem dX8_play_22 : decode cX8_play 22 = .ok (.getfield 133, 3) := by decide +kernel
theorem dX8_play_25 : decode cX8_play 25 = .ok (.invokestatic 161, 3) := by decide +kernel
theorem dX8_play_28 : decode cX8_play 28 = .ok (.istore_n 2, 1) := by decide +kernel
theorem dX8_play_29 : decode cX8_play 29 = .ok (.iload_n 2, 1) := by decide +kernel
theorem dX8_play_30 : decode cX8_play 30 = .ok (.ifCond .ne 6, 3) := by decide +kernel
theorem dX8_play_33 : decode cX8_play 33 = .ok (.bipush (-5), 2) := by decide +kernel
theorem dX8_play_35 : decode cX8_play 35 = .ok (.ireturn, 1) := by decide +kernel
theorem dX8_play_36 : decode cX8_play 36 = .ok (.aload_n 0, 1) := by decide +kernel
theorem dX8_play_37 : decode cX8_play 37 = .ok (.getfield 56, 3) := by decide +kernel
theorem dX8_play_40 : decode cX8_play 40 = .ok (.aload_n 0, 1) := by decide +kernel
theorem dX8_play_41 : decode cX8_play 41 = .ok (.getfield 19, 3) := by decide +kernel
theorem dX8_play_44 : decode cX8_play 44 = .ok (.invokevirtual 71, 3) := by decide +kernel
theorem dX8_play_47 : decode cX8_play 47 = .ok (.iconst 0, 1) := by decide +kernel
theorem dX8_play_48 : decode cX8_play 48 = .ok (.istore_n 3, 1) := by decide +kernel
theorem dX8_play_49 : decode cX8_play 49 = .ok (.iconst 0, 1) := by decide +kernel
theorem dX8_play_50 : decode cX8_play 50 = .ok (.istore 4, 2) := by decide +kernel
theorem dX8_play_52 : decode cX8_play 52 = .ok (.iload 4, 2) := by decide +kernel
theorem dX8_play_54 : decode cX8_play 54 = .ok (.iload_n 2, 1) := by decide +kernel
theorem dX8_play_55 : decode cX8_play 55 = .ok (.if_icmp .ge 21, 3) := by decide +kernel
theorem dX8_play_58 : decode cX8_play 58 = .ok (.aload_n 0, 1) := by decide +kernel
theorem dX8_play_59 : decode cX8_play 59 = .ok (.iload 4, 2) := by decide +kernel
theorem dX8_play_61 : decode cX8_play 61 = .ok (.invokevirtual 166, 3) := by decide +kernel
theorem dX8_play_64 : decode cX8_play 64 = .ok (.ifCond .eq 6, 3) := by decide +kernel
theorem dX8_play_67 : decode cX8_play 67 = .ok (.iinc 3 1, 3) := by decide +kernel
theorem dX8_play_70 : decode cX8_play 70 = .ok (.iinc 4 1, 3) := by decide +kernel
theorem dX8_play_73 : decode cX8_play 73 = .ok (.goto (-21), 3) := by decide +kernel
theorem dX8_play_76 : decode cX8_play 76 = .ok (.aload_n 0, 1) := by decide +kernel
theorem dX8_play_77 : decode cX8_play 77 = .ok (.getfield 19, 3) := by decide +kernel
theorem dX8_play_80 : decode cX8_play 80 = .ok (.getfield 129, 3) := by decide +kernel
theorem dX8_play_83 : decode cX8_play 83 = .ok (.iload_n 2, 1) := by decide +kernel
theorem dX8_play_84 : decode cX8_play 84 = .ok (.invokevirtual 169, 3) := by decide +kernel
theorem dX8_play_87 : decode cX8_play 87 = .ok (.iload_n 3, 1) := by decide +kernel
theorem dX8_play_88 : decode cX8_play 88 = .ok (.ireturn, 1) := by decide +kernel
theorem dX8_undo_0 : decode cX8_undo 0 = .ok (.aload_n 0, 1) := by decide +kernel
theorem dX8_undo_1 : decode cX8_undo 1 = .ok (.getfield 56, 3) := by decide +kernel
theorem dX8_undo_4 : decode cX8_undo 4 = .ok (.getfield 178, 3) := by decide +kernel
theorem dX8_undo_7 : decode cX8_undo 7 = .ok (.ifCond .ne 6, 3) := by decide +kernel
theorem dX8_undo_10 : decode cX8_undo 10 = .ok (.bipush (-5), 2) := by decide +kernel
theorem dX8_undo_12 : decode cX8_undo 12 = .ok (.ireturn, 1) := by decide +kernel
theorem dX8_undo_13 : decode cX8_undo 13 = .ok (.aload_n 0, 1) := by decide +kernel
theorem dX8_undo_14 : decode cX8_undo 14 = .ok (.getfield 56, 3) := by decide +kernel
theorem dX8_undo_17 : decode cX8_undo 17 = .ok (.aload_n 0, 1) := by decide +kernel
theorem dX8_undo_18 : decode cX8_undo 18 = .ok (.getfield 19, 3) := by decide +kernel
theorem dX8_undo_21 : decode cX8_undo 21 = .ok (.invokevirtual 181, 3) := by decide +kernel
theorem dX8_undo_24 : decode cX8_undo 24 = .ok (.aload_n 0, 1) := by decide +kernel
theorem dX8_undo_25 : decode cX8_undo 25 = .ok (.getfield 56, 3) := by decide +kernel
theorem dX8_undo_28 : decode cX8_undo 28 = .ok (.getfield 178, 3) := by decide +kernel
theorem dX8_undo_31 : decode cX8_undo 31 = .ok (.ireturn, 1) := by decide +kernel
theorem dX8_place_0 : decode cX8_place 0 = .ok (.iload_n 1, 1) := by decide +kernel
theorem dX8_place_1 : decode cX8_place 1 = .ok (.iload_n 2, 1) := by decide +kernel
theorem dX8_place_2 : decode cX8_place 2 = .ok (.invokestatic 67, 3) := by decide +kernel
theorem dX8_place_5 : decode cX8_place 5 = .ok (.ifCond .ne 5, 3) := by decide +kernel
theorem dX8_place_8 : decode cX8_place 8 = .ok (.iconst (-1), 1) := by decide +kernel
theorem dX8_place_9 : decode cX8_place 9 = .ok (.ireturn, 1) := by decide +kernel
theorem dX8_place_10 : decode cX8_place 10 = .ok (.iload_n 3, 1) := by decide +kernel
theorem dX8_place_11 : decode cX8_place 11 = .ok (.tableswitch 129 0 3 #[29, 43, 78, 116], 29) := by decide +kernel
theorem dX8_place_40 : decode cX8_place 40 = .ok (.aload_n 0, 1) := by decide +kernel
theorem dX8_place_41 : decode cX8_place 41 = .ok (.getfield 19, 3) := by decide +kernel
theorem dX8_place_44 : decode cX8_place 44 = .ok (.getfield 79, 3) := by decide +kernel
theorem dX8_place_47 : decode cX8_place 47 = .ok (.iload_n 1, 1) := by decide +kernel
theorem dX8_place_48 : decode cX8_place 48 = .ok (.iload_n 2, 1) := by decide +kernel
theorem dX8_place_49 : decode cX8_place 49 = .ok (.invokestatic 75, 3) := by decide +kernel
theorem dX8_place_52 : decode cX8_place 52 = .ok (.iaload, 1) := by decide +kernel
theorem dX8_place_53 : decode cX8_place 53 = .ok (.ireturn, 1) := by decide +kernel
theorem dX8_place_54 : decode cX8_place 54 = .ok (.aload_n 0, 1) := by decide +kernel
theorem dX8_place_55 : decode cX8_place 55 = .ok (.getfield 19, 3) := by decide +kernel
theorem dX8_place_58 : decode cX8_place 58 = .ok (.getfield 187, 3) := by decide +kernel
theorem dX8_place_61 : decode cX8_place 61 = .ok (.invokestatic 190, 3) := by decide +kernel
theorem dX8_place_64 : decode cX8_place 64 = .ok (.ifCond .eq 22, 3) := by decide +kernel
theorem dX8_place_67 : decode cX8_place 67 = .ok (.aload_n 0, 1) := by decide +kernel
theorem dX8_place_68 : decode cX8_place 68 = .ok (.getfield 12, 3) := by decide +kernel
theorem dX8_place_71 : decode cX8_place 71 = .ok (.aload_n 0, 1) := by decide +kernel
theorem dX8_place_72 : decode cX8_place 72 = .ok (.getfield 19, 3) := by decide +kernel
theorem dX8_place_75 : decode cX8_place 75 = .ok (.getfield 187, 3) := by decide +kernel
theorem dX8_place_78 : decode cX8_place 78 = .ok (.iload_n 1, 1) := by decide +kernel
theorem dX8_place_79 : decode cX8_place 79 = .ok (.iload_n 2, 1) := by decide +kernel
theorem dX8_place_80 : decode cX8_place 80 = .ok (.invokevirtual 193, 3) := by decide +kernel
theorem dX8_place_83 : decode cX8_place 83 = .ok (.goto 5, 3) := by decide +kernel
theorem dX8_place_86 : decode cX8_place 86 = .ok (.bipush (-5), 2) := by decide +kernel
theorem dX8_place_88 : decode cX8_place 88 = .ok (.ireturn, 1) := by decide +kernel
theorem dX8_place_89 : decode cX8_place 89 = .ok (.aload_n 0, 1) := by decide +kernel
theorem dX8_place_90 : decode cX8_place 90 = .ok (.getfield 19, 3) := by decide +kernel
theorem dX8_place_93 : decode cX8_place 93 = .ok (.getfield 187, 3) := by decide +kernel
theorem dX8_place_96 : decode cX8_place 96 = .ok (.invokestatic 190, 3) := by decide +kernel
theorem dX8_place_99 : decode cX8_place 99 = .ok (.ifCond .eq 25, 3) := by decide +kernel
theorem dX8_place_102 : decode cX8_place 102 = .ok (.aload_n 0, 1) := by decide +kernel
theorem dX8_place_103 : decode cX8_place 103 = .ok (.getfield 35, 3) := by decide +kernel
theorem dX8_place_106 : decode cX8_place 106 = .ok (.aload_n 0, 1) := by decide +kernel
theorem dX8_place_107 : decode cX8_place 107 = .ok (.getfield 19, 3) := by decide +kernel
theorem dX8_place_110 : decode cX8_place 110 = .ok (.getfield 187, 3) := by decide +kernel
theorem dX8_place_113 : decode cX8_place 113 = .ok (.iload_n 1, 1) := by decide +kernel
theorem dX8_place_114 : decode cX8_place 114 = .ok (.iload_n 2, 1) := by decide +kernel
theorem dX8_place_115 : decode cX8_place 115 = .ok (.invokevirtual 197, 3) := by decide +kernel
theorem dX8_place_118 : decode cX8_place 118 = .ok (.invokestatic 201, 3) := by decide +kernel
theorem dX8_place_121 : decode cX8_place 121 = .ok (.goto 5, 3) := by decide +kernel
theorem dX8_place_124 : decode cX8_place 124 = .ok (.bipush (-5), 2) := by decide +kernel
theorem dX8_place_126 : decode cX8_place 126 = .ok (.ireturn, 1) := by decide +kernel
theorem dX8_place_127 : decode cX8_place 127 = .ok (.aload_n 0, 1) := by decide +kernel
theorem dX8_place_128 : decode cX8_place 128 = .ok (.getfield 19, 3) := by decide +kernel
theorem dX8_place_131 : decode cX8_place 131 = .ok (.iload_n 1, 1) := by decide +kernel
theorem dX8_place_132 : decode cX8_place 132 = .ok (.iload_n 2, 1) := by decide +kernel
