/-! printed rows -/
set_option maxRecDepth 20000 in
theorem ggX6_init_X4_init : GoodIn wsX6_init wsX4_init := goodIn_r _ [14, 15, 2, 3, 16, 17, 18, 19, 20, 21, 22, 23, 24, 25, 30, 31, 32, 33, 34] (by decide +kernel) (by decide +kernel)
set_option maxRecDepth 20000 in
theorem gX6_init_X4_init : GoodIn wsX6_init (wsX4_init) := ggX6_init_X4_init
theorem dX6_init_0 : decode cX6_init 0 = .ok (.aload_n 0, 1) := by decide +kernel
theorem dX6_init_1 : decode cX6_init 1 = .ok (.invokespecial 3, 3) := by decide +kernel
theorem dX6_init_4 : decode cX6_init 4 = .ok (.aload_n 0, 1) := by decide +kernel
theorem dX6_init_5 : decode cX6_init 5 = .ok (.bipush 60, 2) := by decide +kernel
theorem dX6_init_7 : decode cX6_init 7 = .ok (.newarray .char, 2) := by decide +kernel
theorem dX6_init_9 : decode cX6_init 9 = .ok (.putfield 9, 3) := by decide +kernel
theorem dX6_init_12 : decode cX6_init 12 = .ok (.aload_n 0, 1) := by decide +kernel
theorem dX6_init_13 : decode cX6_init 13 = .ok (.iconst 0, 1) := by decide +kernel
theorem dX6_init_14 : decode cX6_init 14 = .ok (.putfield 15, 3) := by decide +kernel
theorem dX6_init_17 : decode cX6_init 17 = .ok (.aload_n 0, 1) := by decide +kernel
theorem dX6_init_18 : decode cX6_init 18 = .ok (.new 19, 3) := by decide +kernel
theorem dX6_init_21 : decode cX6_init 21 = .ok (.dup, 1) := by decide +kernel
theorem dX6_init_22 : decode cX6_init 22 = .ok (.bipush 60, 2) := by decide +kernel
theorem dX6_init_24 : decode cX6_init 24 = .ok (.invokespecial 21, 3) := by decide +kernel
theorem dX6_init_27 : decode cX6_init 27 = .ok (.putfield 24, 3) := by decide +kernel
theorem dX6_init_30 : decode cX6_init 30 = .ok (.aload_n 0, 1) := by decide +kernel
theorem dX6_init_31 : decode cX6_init 31 = .ok (.iconst 0, 1) := by decide +kernel
theorem dX6_init_32 : decode cX6_init 32 = .ok (.putfield 28, 3) := by decide +kernel
theorem dX6_init_35 : decode cX6_init 35 = .ok (.return_, 1) := by decide +kernel
set_option maxRecDepth 20000 in
theorem ggX7_init_X7_waveHeight : GoodIn wsX7_init wsX7_waveHeight := goodIn_r _ [13] (by decide +kernel) (by decide +kernel)
set_option maxRecDepth 20000 in
theorem gX7_init_X7_waveHeight : GoodIn wsX7_init (va_wsS RX7 28 yX7_waveHeight wsX7_waveHeight) := goodIn_app (goodIn_of _ (by decide +kernel)) ggX7_init_X7_waveHeight
set_option maxRecDepth 20000 in
theorem ggX7_init_X7_listWaysOf : GoodIn wsX7_init wsX7_listWaysOf := goodIn_r _ [17, 9, 5, 6, 7, 18, 19, 20, 21, 22] (by decide +kernel) (by decide +kernel)
set_option maxRecDepth 20000 in
theorem gX7_init_X7_listWaysOf : GoodIn wsX7_init (wsV RX7 32 RX7 yX7_listWaysOf wsX7_listWaysOf) := goodIn_app (goodIn_of _ (by decide +kernel)) ggX7_init_X7_listWaysOf
theorem dX7_init_0 : decode cX7_init 0 = .ok (.aload_n 0, 1) := by decide +kernel
theorem dX7_init_1 : decode cX7_init 1 = .ok (.invokespecial 3, 3) := by decide +kernel
theorem dX7_init_4 : decode cX7_init 4 = .ok (.aload_n 0, 1) := by decide +kernel
theorem dX7_init_5 : decode cX7_init 5 = .ok (.bipush 48, 2) := by decide +kernel
theorem dX7_init_7 : decode cX7_init 7 = .ok (.newarray .int, 2) := by decide +kernel
theorem dX7_init_9 : decode cX7_init 9 = .ok (.putfield 9, 3) := by decide +kernel
theorem dX7_init_12 : decode cX7_init 12 = .ok (.aload_n 0, 1) := by decide +kernel
theorem dX7_init_13 : decode cX7_init 13 = .ok (.bipush 48, 2) := by decide +kernel
theorem dX7_init_15 : decode cX7_init 15 = .ok (.newarray .int, 2) := by decide +kernel
theorem dX7_init_17 : decode cX7_init 17 = .ok (.putfield 15, 3) := by decide +kernel
theorem dX7_init_20 : decode cX7_init 20 = .ok (.aload_n 0, 1) := by decide +kernel
theorem dX7_init_21 : decode cX7_init 21 = .ok (.bipush 48, 2) := by decide +kernel
theorem dX7_init_23 : decode cX7_init 23 = .ok (.newarray .int, 2) := by decide +kernel
theorem dX7_init_25 : decode cX7_init 25 = .ok (.putfield 18, 3) := by decide +kernel
theorem dX7_init_28 : decode cX7_init 28 = .ok (.aload_n 0, 1) := by decide +kernel
theorem dX7_init_29 : decode cX7_init 29 = .ok (.bipush 84, 2) := by decide +kernel
theorem dX7_init_31 : decode cX7_init 31 = .ok (.newarray .int, 2) := by decide +kernel
theorem dX7_init_33 : decode cX7_init 33 = .ok (.putfield 21, 3) := by decide +kernel
theorem dX7_init_36 : decode cX7_init 36 = .ok (.aload_n 0, 1) := by decide +kernel
theorem dX7_init_37 : decode cX7_init 37 = .ok (.iconst 0, 1) := by decide +kernel
theorem dX7_init_38 : decode cX7_init 38 = .ok (.putfield 24, 3) := by decide +kernel
theorem dX7_init_41 : decode cX7_init 41 = .ok (.iconst 0, 1) := by decide +kernel
theorem dX7_init_42 : decode cX7_init 42 = .ok (.istore_n 1, 1) := by decide +kernel
theorem dX7_init_43 : decode cX7_init 43 = .ok (.iload_n 1, 1) := by decide +kernel
theorem dX7_init_44 : decode cX7_init 44 = .ok (.bipush 7, 2) := by decide +kernel
theorem dX7_init_46 : decode cX7_init 46 = .ok (.if_icmp .ge 39, 3) := by decide +kernel
theorem dX7_init_49 : decode cX7_init 49 = .ok (.iconst 0, 1) := by decide +kernel
theorem dX7_init_50 : decode cX7_init 50 = .ok (.istore_n 2, 1) := by decide +kernel
theorem dX7_init_51 : decode cX7_init 51 = .ok (.iload_n 2, 1) := by decide +kernel
theorem dX7_init_52 : decode cX7_init 52 = .ok (.bipush 12, 2) := by decide +kernel
theorem dX7_init_54 : decode cX7_init 54 = .ok (.if_icmp .ge 25, 3) := by decide +kernel
theorem dX7_init_57 : decode cX7_init 57 = .ok (.aload_n 0, 1) := by decide +kernel
theorem dX7_init_58 : decode cX7_init 58 = .ok (.getfield 21, 3) := by decide +kernel
theorem dX7_init_61 : decode cX7_init 61 = .ok (.iload_n 1, 1) := by decide +kernel
theorem dX7_init_62 : decode cX7_init 62 = .ok (.bipush 12, 2) := by decide +kernel
theorem dX7_init_64 : decode cX7_init 64 = .ok (.imul, 1) := by decide +kernel
theorem dX7_init_65 : decode cX7_init 65 = .ok (.iload_n 2, 1) := by decide +kernel
theorem dX7_init_66 : decode cX7_init 66 = .ok (.iadd, 1) := by decide +kernel
theorem dX7_init_67 : decode cX7_init 67 = .ok (.iload_n 1, 1) := by decide +kernel
theorem dX7_init_68 : decode cX7_init 68 = .ok (.iload_n 2, 1) := by decide +kernel
theorem dX7_init_69 : decode cX7_init 69 = .ok (.invokestatic 28, 3) := by decide +kernel
theorem dX7_init_72 : decode cX7_init 72 = .ok (.iastore, 1) := by decide +kernel
theorem dX7_init_73 : decode cX7_init 73 = .ok (.iinc 2 1, 3) := by decide +kernel
theorem dX7_init_76 : decode cX7_init 76 = .ok (.goto (-25), 3) := by decide +kernel
theorem dX7_init_79 : decode cX7_init 79 = .ok (.iinc 1 1, 3) := by decide +kernel
theorem dX7_init_82 : decode cX7_init 82 = .ok (.goto (-39), 3) := by decide +kernel
theorem dX7_init_85 : decode cX7_init 85 = .ok (.bipush 72, 2) := by decide +kernel
theorem dX7_init_87 : decode cX7_init 87 = .ok (.istore_n 1, 1) := by decide +kernel
theorem dX7_init_88 : decode cX7_init 88 = .ok (.iconst 1, 1) := by decide +kernel
theorem dX7_init_89 : decode cX7_init 89 = .ok (.istore_n 2, 1) := by decide +kernel
theorem dX7_init_90 : decode cX7_init 90 = .ok (.iload_n 2, 1) := by decide +kernel
theorem dX7_init_91 : decode cX7_init 91 = .ok (.iload_n 1, 1) := by decide +kernel
theorem dX7_init_92 : decode cX7_init 92 = .ok (.if_icmp .gt 21, 3) := by decide +kernel
theorem dX7_init_95 : decode cX7_init 95 = .ok (.aload_n 0, 1) := by decide +kernel
theorem dX7_init_96 : decode cX7_init 96 = .ok (.iload_n 2, 1) := by decide +kernel
theorem dX7_init_97 : decode cX7_init 97 = .ok (.iconst 0, 1) := by decide +kernel
theorem dX7_init_98 : decode cX7_init 98 = .ok (.invokevirtual 32, 3) := by decide +kernel
theorem dX7_init_101 : decode cX7_init 101 = .ok (.aload_n 0, 1) := by decide +kernel
theorem dX7_init_102 : decode cX7_init 102 = .ok (.iload_n 2, 1) := by decide +kernel
theorem dX7_init_103 : decode cX7_init 103 = .ok (.iconst 1, 1) := by decide +kernel
theorem dX7_init_104 : decode cX7_init 104 = .ok (.invokevirtual 32, 3) := by decide +kernel
theorem dX7_init_107 : decode cX7_init 107 = .ok (.iinc 2 1, 3) := by decide +kernel
theorem dX7_init_110 : decode cX7_init 110 = .ok (.goto (-20), 3) := by decide +kernel
theorem dX7_init_113 : decode cX7_init 113 = .ok (.return_, 1) := by decide +kernel
theorem dX7_waveHeight_0 : decode cX7_waveHeight 0 = .ok (.sipush 200, 3) := by decide +kernel
theorem dX7_waveHeight_3 : decode cX7_waveHeight 3 = .ok (.iload_n 0, 1) := by decide +kernel
theorem dX7_waveHeight_4 : decode cX7_waveHeight 4 = .ok (.imul, 1) := by decide +kernel
theorem dX7_waveHeight_5 : decode cX7_waveHeight 5 = .ok (.iload_n 1, 1) := by decide +kernel
theorem dX7_waveHeight_6 : decode cX7_waveHeight 6 = .ok (.imul, 1) := by decide +kernel
theorem dX7_waveHeight_7 : decode cX7_waveHeight 7 = .ok (.bipush 11, 2) := by decide +kernel
theorem dX7_waveHeight_9 : decode cX7_waveHeight 9 = .ok (.idiv, 1) := by decide +kernel
theorem dX7_waveHeight_10 : decode cX7_waveHeight 10 = .ok (.sipush 400, 3) := by decide +kernel
theorem dX7_waveHeight_13 : decode cX7_waveHeight 13 = .ok (.irem, 1) := by decide +kernel
theorem dX7_waveHeight_14 : decode cX7_waveHeight 14 = .ok (.istore_n 2, 1) := by decide +kernel
theorem dX7_waveHeight_15 : decode cX7_waveHeight 15 = .ok (.iload_n 2, 1) := by decide +kernel
theorem dX7_waveHeight_16 : decode cX7_waveHeight 16 = .ok (.sipush 200, 3) := by decide +kernel
theorem dX7_waveHeight_19 : decode cX7_waveHeight 19 = .ok (.if_icmp .gt 10, 3) := by decide +kernel
theorem dX7_waveHeight_22 : decode cX7_waveHeight 22 = .ok (.bipush 100, 2) := by decide +kernel
theorem dX7_waveHeight_24 : decode cX7_waveHeight 24 = .ok (.iload_n 2, 1) := by decide +kernel
theorem dX7_waveHeight_25 : decode cX7_waveHeight 25 = .ok (.isub, 1) := by decide +kernel
theorem dX7_waveHeight_26 : decode cX7_waveHeight 26 = .ok (.goto 8, 3) := by decide +kernel
theorem dX7_waveHeight_29 : decode cX7_waveHeight 29 = .ok (.iload_n 2, 1) := by decide +kernel
theorem dX7_waveHeight_30 : decode cX7_waveHeight 30 = .ok (.sipush 300, 3) := by decide +kernel
theorem dX7_waveHeight_33 : decode cX7_waveHeight 33 = .ok (.isub, 1) := by decide +kernel
theorem dX7_waveHeight_34 : decode cX7_waveHeight 34 = .ok (.ireturn, 1) := by decide +kernel
theorem dX7_listWaysOf_0 : decode cX7_listWaysOf 0 = .ok (.iconst 0, 1) := by decide +kernel
theorem dX7_listWaysOf_1 : decode cX7_listWaysOf 1 = .ok (.istore_n 3, 1) := by decide +kernel
theorem dX7_listWaysOf_2 : decode cX7_listWaysOf 2 = .ok (.iload_n 3, 1) := by decide +kernel
theorem dX7_listWaysOf_3 : decode cX7_listWaysOf 3 = .ok (.bipush 7, 2) := by decide +kernel
theorem dX7_listWaysOf_5 : decode cX7_listWaysOf 5 = .ok (.if_icmp .ge 90, 3) := by decide +kernel
theorem dX7_listWaysOf_8 : decode cX7_listWaysOf 8 = .ok (.iload_n 3, 1) := by decide +kernel
theorem dX7_listWaysOf_9 : decode cX7_listWaysOf 9 = .ok (.iload_n 2, 1) := by decide +kernel
theorem dX7_listWaysOf_10 : decode cX7_listWaysOf 10 = .ok (.iadd, 1) := by decide +kernel
theorem dX7_listWaysOf_11 : decode cX7_listWaysOf 11 = .ok (.istore 4, 2) := by decide +kernel
theorem dX7_listWaysOf_13 : decode cX7_listWaysOf 13 = .ok (.iload 4, 2) := by decide +kernel
theorem dX7_listWaysOf_15 : decode cX7_listWaysOf 15 = .ok (.bipush 7, 2) := by decide +kernel
theorem dX7_listWaysOf_17 : decode cX7_listWaysOf 17 = .ok (.if_icmp .ge 72, 3) := by decide +kernel
theorem dX7_listWaysOf_20 : decode cX7_listWaysOf 20 = .ok (.iload_n 3, 1) := by decide +kernel
theorem dX7_listWaysOf_21 : decode cX7_listWaysOf 21 = .ok (.iload_n 3, 1) := by decide +kernel
theorem dX7_listWaysOf_22 : decode cX7_listWaysOf 22 = .ok (.imul, 1) := by decide +kernel
theorem dX7_listWaysOf_23 : decode cX7_listWaysOf 23 = .ok (.iload 4, 2) := by decide +kernel
theorem dX7_listWaysOf_25 : decode cX7_listWaysOf 25 = .ok (.iload 4, 2) := by decide +kernel
theorem dX7_listWaysOf_27 : decode cX7_listWaysOf 27 = .ok (.imul, 1) := by decide +kernel
theorem dX7_listWaysOf_28 : decode cX7_listWaysOf 28 = .ok (.iadd, 1) := by decide +kernel
theorem dX7_listWaysOf_29 : decode cX7_listWaysOf 29 = .ok (.iload_n 1, 1) := by decide +kernel
theorem dX7_listWaysOf_30 : decode cX7_listWaysOf 30 = .ok (.if_icmp .ne 53, 3) := by decide +kernel
theorem dX7_listWaysOf_33 : decode cX7_listWaysOf 33 = .ok (.aload_n 0, 1) := by decide +kernel
theorem dX7_listWaysOf_34 : decode cX7_listWaysOf 34 = .ok (.getfield 24, 3) := by decide +kernel
theorem dX7_listWaysOf_37 : decode cX7_listWaysOf 37 = .ok (.bipush 48, 2) := by decide +kernel
theorem dX7_listWaysOf_39 : decode cX7_listWaysOf 39 = .ok (.if_icmp .ge 44, 3) := by decide +kernel
theorem dX7_listWaysOf_42 : decode cX7_listWaysOf 42 = .ok (.aload_n 0, 1) := by decide +kernel
theorem dX7_listWaysOf_43 : decode cX7_listWaysOf 43 = .ok (.getfield 9, 3) := by decide +kernel
theorem dX7_listWaysOf_46 : decode cX7_listWaysOf 46 = .ok (.aload_n 0, 1) := by decide +kernel
theorem dX7_listWaysOf_47 : decode cX7_listWaysOf 47 = .ok (.getfield 24, 3) := by decide +kernel
theorem dX7_listWaysOf_50 : decode cX7_listWaysOf 50 = .ok (.iload_n 3, 1) := by decide +kernel
theorem dX7_listWaysOf_51 : decode cX7_listWaysOf 51 = .ok (.iastore, 1) := by decide +kernel
theorem dX7_listWaysOf_52 : decode cX7_listWaysOf 52 = .ok (.aload_n 0, 1) := by decide +kernel
theorem dX7_listWaysOf_53 : decode cX7_listWaysOf 53 = .ok (.getfield 15, 3) := by decide +kernel
theorem dX7_listWaysOf_56 : decode cX7_listWaysOf 56 = .ok (.aload_n 0, 1) := by decide +kernel
theorem dX7_listWaysOf_57 : decode cX7_listWaysOf 57 = .ok (.getfield 24, 3) := by decide +kernel
theorem dX7_listWaysOf_60 : decode cX7_listWaysOf 60 = .ok (.iload 4, 2) := by decide +kernel
theorem dX7_listWaysOf_62 : decode cX7_listWaysOf 62 = .ok (.iastore, 1) := by decide +kernel
theorem dX7_listWaysOf_63 : decode cX7_listWaysOf 63 = .ok (.aload_n 0, 1) := by decide +kernel
theorem dX7_listWaysOf_64 : decode cX7_listWaysOf 64 = .ok (.getfield 18, 3) := by decide +kernel
theorem dX7_listWaysOf_67 : decode cX7_listWaysOf 67 = .ok (.aload_n 0, 1) := by decide +kernel
theorem dX7_listWaysOf_68 : decode cX7_listWaysOf 68 = .ok (.getfield 24, 3) := by decide +kernel
theorem dX7_listWaysOf_71 : decode cX7_listWaysOf 71 = .ok (.iload_n 2, 1) := by decide +kernel
theorem dX7_listWaysOf_72 : decode cX7_listWaysOf 72 = .ok (.iastore, 1) := by decide +kernel
theorem dX7_listWaysOf_73 : decode cX7_listWaysOf 73 = .ok (.aload_n 0, 1) := by decide +kernel
theorem dX7_listWaysOf_74 : decode cX7_listWaysOf 74 = .ok (.dup, 1) := by decide +kernel
theorem dX7_listWaysOf_75 : decode cX7_listWaysOf 75 = .ok (.getfield 24, 3) := by decide +kernel
theorem dX7_listWaysOf_78 : decode cX7_listWaysOf 78 = .ok (.iconst 1, 1) := by decide +kernel
theorem dX7_listWaysOf_79 : decode cX7_listWaysOf 79 = .ok (.iadd, 1) := by decide +kernel
theorem dX7_listWaysOf_80 : decode cX7_listWaysOf 80 = .ok (.putfield 24, 3) := by decide +kernel
theorem dX7_listWaysOf_83 : decode cX7_listWaysOf 83 = .ok (.iinc 4 1, 3) := by decide +kernel
theorem dX7_listWaysOf_86 : decode cX7_listWaysOf 86 = .ok (.goto (-73), 3) := by decide +kernel
theorem dX7_listWaysOf_89 : decode cX7_listWaysOf 89 = .ok (.iinc 3 1, 3) := by decide +kernel
theorem dX7_listWaysOf_92 : decode cX7_listWaysOf 92 = .ok (.goto (-90), 3) := by decide +kernel
theorem dX7_listWaysOf_95 : decode cX7_listWaysOf 95 = .ok (.return_, 1) := by decide +kernel
set_option maxRecDepth 20000 in
theorem ggX7_noteOf_X8_isWay : GoodIn wsX7_noteOf wsX8_isWay := goodIn_r _ [6] (by decide +kernel) (by decide +kernel)
set_option maxRecDepth 20000 in
theorem gX7_noteOf_X8_isWay_n36 : GoodIn wsX7_noteOf (wsX8_isWay) := ggX7_noteOf_X8_isWay
theorem dX7_noteOf_0 : decode cX7_noteOf 0 = .ok (.iload_n 1, 1) := by decide +kernel
theorem dX7_noteOf_1 : decode cX7_noteOf 1 = .ok (.invokestatic 36, 3) := by decide +kernel
theorem dX7_noteOf_4 : decode cX7_noteOf 4 = .ok (.ifCond .ne 5, 3) := by decide +kernel
theorem dX7_noteOf_7 : decode cX7_noteOf 7 = .ok (.iconst 0, 1) := by decide +kernel
theorem dX7_noteOf_8 : decode cX7_noteOf 8 = .ok (.ireturn, 1) := by decide +kernel
theorem dX7_noteOf_9 : decode cX7_noteOf 9 = .ok (.bipush 10, 2) := by decide +kernel
theorem dX7_noteOf_11 : decode cX7_noteOf 11 = .ok (.aload_n 0, 1) := by decide +kernel
theorem dX7_noteOf_12 : decode cX7_noteOf 12 = .ok (.getfield 9, 3) := by decide +kernel
theorem dX7_noteOf_15 : decode cX7_noteOf 15 = .ok (.iload_n 1, 1) := by decide +kernel
theorem dX7_noteOf_16 : decode cX7_noteOf 16 = .ok (.iaload, 1) := by decide +kernel
theorem dX7_noteOf_17 : decode cX7_noteOf 17 = .ok (.aload_n 0, 1) := by decide +kernel
theorem dX7_noteOf_18 : decode cX7_noteOf 18 = .ok (.getfield 9, 3) := by decide +kernel
theorem dX7_noteOf_21 : decode cX7_noteOf 21 = .ok (.iload_n 1, 1) := by decide +kernel
theorem dX7_noteOf_22 : decode cX7_noteOf 22 = .ok (.iaload, 1) := by decide +kernel
theorem dX7_noteOf_23 : decode cX7_noteOf 23 = .ok (.imul, 1) := by decide +kernel
theorem dX7_noteOf_24 : decode cX7_noteOf 24 = .ok (.aload_n 0, 1) := by decide +kernel
theorem dX7_noteOf_25 : decode cX7_noteOf 25 = .ok (.getfield 15, 3) := by decide +kernel
theorem dX7_noteOf_28 : decode cX7_noteOf 28 = .ok (.iload_n 1, 1) := by decide +kernel
theorem dX7_noteOf_29 : decode cX7_noteOf 29 = .ok (.iaload, 1) := by decide +kernel
theorem dX7_noteOf_30 : decode cX7_noteOf 30 = .ok (.aload_n 0, 1) := by decide +kernel
theorem dX7_noteOf_31 : decode cX7_noteOf 31 = .ok (.getfield 15, 3) := by decide +kernel
theorem dX7_noteOf_34 : decode cX7_noteOf 34 = .ok (.iload_n 1, 1) := by decide +kernel
theorem dX7_noteOf_35 : decode cX7_noteOf 35 = .ok (.iaload, 1) := by decide +kernel
theorem dX7_noteOf_36 : decode cX7_noteOf 36 = .ok (.imul, 1) := by decide +kernel
theorem dX7_noteOf_37 : decode cX7_noteOf 37 = .ok (.iadd, 1) := by decide +kernel
theorem dX7_noteOf_38 : decode cX7_noteOf 38 = .ok (.imul, 1) := by decide +kernel
theorem dX7_noteOf_39 : decode cX7_noteOf 39 = .ok (.aload_n 0, 1) := by decide +kernel
theorem dX7_noteOf_40 : decode cX7_noteOf 40 = .ok (.getfield 18, 3) := by decide +kernel
theorem dX7_noteOf_43 : decode cX7_noteOf 43 = .ok (.iload_n 1, 1) := by decide +kernel
theorem dX7_noteOf_44 : decode cX7_noteOf 44 = .ok (.iaload, 1) := by decide +kernel
theorem dX7_noteOf_45 : decode cX7_noteOf 45 = .ok (.iadd, 1) := by decide +kernel
theorem dX7_noteOf_46 : decode cX7_noteOf 46 = .ok (.ireturn, 1) := by decide +kernel
set_option maxRecDepth 20000 in
theorem ggX7_swingAt_X8_isWay : GoodIn wsX7_swingAt wsX8_isWay := goodIn_r _ [11] (by decide +kernel) (by decide +kernel)
set_option maxRecDepth 20000 in
theorem gX7_swingAt_X8_isWay_n36 : GoodIn wsX7_swingAt (wsX8_isWay) := ggX7_swingAt_X8_isWay
set_option maxRecDepth 20000 in
theorem ggX7_swingAt_X8_isPlace : GoodIn wsX7_swingAt wsX8_isPlace := goodIn_r _ [13] (by decide +kernel) (by decide +kernel)
set_option maxRecDepth 20000 in
theorem gX7_swingAt_X8_isPlace_n40 : GoodIn wsX7_swingAt (wsX8_isPlace) := ggX7_swingAt_X8_isPlace
theorem dX7_swingAt_0 : decode cX7_swingAt 0 = .ok (.iload_n 1, 1) := by decide +kernel
theorem dX7_swingAt_1 : decode cX7_swingAt 1 = .ok (.invokestatic 36, 3) := by decide +kernel
theorem dX7_swingAt_4 : decode cX7_swingAt 4 = .ok (.ifCond .eq 11, 3) := by decide +kernel
theorem dX7_swingAt_7 : decode cX7_swingAt 7 = .ok (.iload_n 2, 1) := by decide +kernel
theorem dX7_swingAt_8 : decode cX7_swingAt 8 = .ok (.iload_n 3, 1) := by decide +kernel
theorem dX7_swingAt_9 : decode cX7_swingAt 9 = .ok (.invokestatic 40, 3) := by decide +kernel
theorem dX7_swingAt_12 : decode cX7_swingAt 12 = .ok (.ifCond .ne 5, 3) := by decide +kernel
theorem dX7_swingAt_15 : decode cX7_swingAt 15 = .ok (.iconst 0, 1) := by decide +kernel
theorem dX7_swingAt_16 : decode cX7_swingAt 16 = .ok (.ireturn, 1) := by decide +kernel
theorem dX7_swingAt_17 : decode cX7_swingAt 17 = .ok (.aload_n 0, 1) := by decide +kernel
theorem dX7_swingAt_18 : decode cX7_swingAt 18 = .ok (.getfield 9, 3) := by decide +kernel
theorem dX7_swingAt_21 : decode cX7_swingAt 21 = .ok (.iload_n 1, 1) := by decide +kernel
theorem dX7_swingAt_22 : decode cX7_swingAt 22 = .ok (.iaload, 1) := by decide +kernel
theorem dX7_swingAt_23 : decode cX7_swingAt 23 = .ok (.bipush 12, 2) := by decide +kernel
theorem dX7_swingAt_25 : decode cX7_swingAt 25 = .ok (.imul, 1) := by decide +kernel
theorem dX7_swingAt_26 : decode cX7_swingAt 26 = .ok (.istore 4, 2) := by decide +kernel
theorem dX7_swingAt_28 : decode cX7_swingAt 28 = .ok (.aload_n 0, 1) := by decide +kernel
theorem dX7_swingAt_29 : decode cX7_swingAt 29 = .ok (.getfield 15, 3) := by decide +kernel
theorem dX7_swingAt_32 : decode cX7_swingAt 32 = .ok (.iload_n 1, 1) := by decide +kernel
theorem dX7_swingAt_33 : decode cX7_swingAt 33 = .ok (.iaload, 1) := by decide +kernel
theorem dX7_swingAt_34 : decode cX7_swingAt 34 = .ok (.bipush 12, 2) := by decide +kernel
theorem dX7_swingAt_36 : decode cX7_swingAt 36 = .ok (.imul, 1) := by decide +kernel
theorem dX7_swingAt_37 : decode cX7_swingAt 37 = .ok (.istore 5, 2) := by decide +kernel
theorem dX7_swingAt_39 : decode cX7_swingAt 39 = .ok (.aload_n 0, 1) := by decide +kernel
theorem dX7_swingAt_40 : decode cX7_swingAt 40 = .ok (.getfield 21, 3) := by decide +kernel
theorem dX7_swingAt_43 : decode cX7_swingAt 43 = .ok (.iload 4, 2) := by decide +kernel
theorem dX7_swingAt_45 : decode cX7_swingAt 45 = .ok (.iload_n 2, 1) := by decide +kernel
theorem dX7_swingAt_46 : decode cX7_swingAt 46 = .ok (.iadd, 1) := by decide +kernel
theorem dX7_swingAt_47 : decode cX7_swingAt 47 = .ok (.iaload, 1) := by decide +kernel
theorem dX7_swingAt_48 : decode cX7_swingAt 48 = .ok (.aload_n 0, 1) := by decide +kernel
theorem dX7_swingAt_49 : decode cX7_swingAt 49 = .ok (.getfield 21, 3) := by decide +kernel
theorem dX7_swingAt_52 : decode cX7_swingAt 52 = .ok (.iload 5, 2) := by decide +kernel
theorem dX7_swingAt_54 : decode cX7_swingAt 54 = .ok (.iload_n 3, 1) := by decide +kernel
theorem dX7_swingAt_55 : decode cX7_swingAt 55 = .ok (.iadd, 1) := by decide +kernel
theorem dX7_swingAt_56 : decode cX7_swingAt 56 = .ok (.iaload, 1) := by decide +kernel
theorem dX7_swingAt_57 : decode cX7_swingAt 57 = .ok (.imul, 1) := by decide +kernel
theorem dX7_swingAt_58 : decode cX7_swingAt 58 = .ok (.istore 6, 2) := by decide +kernel
theorem dX7_swingAt_60 : decode cX7_swingAt 60 = .ok (.aload_n 0, 1) := by decide +kernel
theorem dX7_swingAt_61 : decode cX7_swingAt 61 = .ok (.getfield 21, 3) := by decide +kernel
theorem dX7_swingAt_64 : decode cX7_swingAt 64 = .ok (.iload 5, 2) := by decide +kernel
theorem dX7_swingAt_66 : decode cX7_swingAt 66 = .ok (.iload_n 2, 1) := by decide +kernel
theorem dX7_swingAt_67 : decode cX7_swingAt 67 = .ok (.iadd, 1) := by decide +kernel
theorem dX7_swingAt_68 : decode cX7_swingAt 68 = .ok (.iaload, 1) := by decide +kernel
theorem dX7_swingAt_69 : decode cX7_swingAt 69 = .ok (.aload_n 0, 1) := by decide +kernel
theorem dX7_swingAt_70 : decode cX7_swingAt 70 = .ok (.getfield 21, 3) := by decide +kernel
theorem dX7_swingAt_73 : decode cX7_swingAt 73 = .ok (.iload 4, 2) := by decide +kernel
theorem dX7_swingAt_75 : decode cX7_swingAt 75 = .ok (.iload_n 3, 1) := by decide +kernel
theorem dX7_swingAt_76 : decode cX7_swingAt 76 = .ok (.iadd, 1) := by decide +kernel
theorem dX7_swingAt_77 : decode cX7_swingAt 77 = .ok (.iaload, 1) := by decide +kernel
theorem dX7_swingAt_78 : decode cX7_swingAt 78 = .ok (.imul, 1) := by decide +kernel
theorem dX7_swingAt_79 : decode cX7_swingAt 79 = .ok (.istore 7, 2) := by decide +kernel
theorem dX7_swingAt_81 : decode cX7_swingAt 81 = .ok (.aload_n 0, 1) := by decide +kernel
theorem dX7_swingAt_82 : decode cX7_swingAt 82 = .ok (.getfield 18, 3) := by decide +kernel
theorem dX7_swingAt_85 : decode cX7_swingAt 85 = .ok (.iload_n 1, 1) := by decide +kernel
theorem dX7_swingAt_86 : decode cX7_swingAt 86 = .ok (.iaload, 1) := by decide +kernel
theorem dX7_swingAt_87 : decode cX7_swingAt 87 = .ok (.ifCond .ne 11, 3) := by decide +kernel
theorem dX7_swingAt_90 : decode cX7_swingAt 90 = .ok (.iload 6, 2) := by decide +kernel
theorem dX7_swingAt_92 : decode cX7_swingAt 92 = .ok (.iload 7, 2) := by decide +kernel
theorem dX7_swingAt_94 : decode cX7_swingAt 94 = .ok (.iadd, 1) := by decide +kernel
theorem dX7_swingAt_95 : decode cX7_swingAt 95 = .ok (.goto 8, 3) := by decide +kernel
theorem dX7_swingAt_98 : decode cX7_swingAt 98 = .ok (.iload 6, 2) := by decide +kernel
theorem dX7_swingAt_100 : decode cX7_swingAt 100 = .ok (.iload 7, 2) := by decide +kernel
theorem dX7_swingAt_102 : decode cX7_swingAt 102 = .ok (.isub, 1) := by decide +kernel
theorem dX7_swingAt_103 : decode cX7_swingAt 103 = .ok (.bipush 100, 2) := by decide +kernel
theorem dX7_swingAt_105 : decode cX7_swingAt 105 = .ok (.idiv, 1) := by decide +kernel
theorem dX7_swingAt_106 : decode cX7_swingAt 106 = .ok (.invokestatic 44, 3) := by decide +kernel
theorem dX7_swingAt_109 : decode cX7_swingAt 109 = .ok (.ireturn, 1) := by decide +kernel
