theorem dX9_init_0 : decode cX9_init 0 = .ok (.aload_n 0, 1) := by decide +kernel
theorem dX9_init_1 : decode cX9_init 1 = .ok (.invokespecial 1, 3) := by decide +kernel
theorem dX9_init_4 : decode cX9_init 4 = .ok (.aload_n 0, 1) := by decide +kernel
theorem dX9_init_5 : decode cX9_init 5 = .ok (.bipush 48, 2) := by decide +kernel
theorem dX9_init_7 : decode cX9_init 7 = .ok (.newarray .int, 2) := by decide +kernel
theorem dX9_init_9 : decode cX9_init 9 = .ok (.putfield 7, 3) := by decide +kernel
theorem dX9_init_12 : decode cX9_init 12 = .ok (.aload_n 0, 1) := by decide +kernel
theorem dX9_init_13 : decode cX9_init 13 = .ok (.bipush 48, 2) := by decide +kernel
theorem dX9_init_15 : decode cX9_init 15 = .ok (.newarray .int, 2) := by decide +kernel
theorem dX9_init_17 : decode cX9_init 17 = .ok (.putfield 13, 3) := by decide +kernel
theorem dX9_init_20 : decode cX9_init 20 = .ok (.aload_n 0, 1) := by decide +kernel
theorem dX9_init_21 : decode cX9_init 21 = .ok (.bipush 48, 2) := by decide +kernel
theorem dX9_init_23 : decode cX9_init 23 = .ok (.newarray .int, 2) := by decide +kernel
theorem dX9_init_25 : decode cX9_init 25 = .ok (.putfield 16, 3) := by decide +kernel
theorem dX9_init_28 : decode cX9_init 28 = .ok (.aload_n 0, 1) := by decide +kernel
theorem dX9_init_29 : decode cX9_init 29 = .ok (.sipush 6912, 3) := by decide +kernel
theorem dX9_init_32 : decode cX9_init 32 = .ok (.newarray .int, 2) := by decide +kernel
theorem dX9_init_34 : decode cX9_init 34 = .ok (.putfield 19, 3) := by decide +kernel
theorem dX9_init_37 : decode cX9_init 37 = .ok (.aload_n 0, 1) := by decide +kernel
theorem dX9_init_38 : decode cX9_init 38 = .ok (.sipush 208, 3) := by decide +kernel
theorem dX9_init_41 : decode cX9_init 41 = .ok (.newarray .int, 2) := by decide +kernel
theorem dX9_init_43 : decode cX9_init 43 = .ok (.putfield 22, 3) := by decide +kernel
theorem dX9_init_46 : decode cX9_init 46 = .ok (.aload_n 0, 1) := by decide +kernel
theorem dX9_init_47 : decode cX9_init 47 = .ok (.sipush 832, 3) := by decide +kernel
theorem dX9_init_50 : decode cX9_init 50 = .ok (.newarray .int, 2) := by decide +kernel
theorem dX9_init_52 : decode cX9_init 52 = .ok (.putfield 25, 3) := by decide +kernel
theorem dX9_init_55 : decode cX9_init 55 = .ok (.aload_n 0, 1) := by decide +kernel
theorem dX9_init_56 : decode cX9_init 56 = .ok (.sipush 208, 3) := by decide +kernel
theorem dX9_init_59 : decode cX9_init 59 = .ok (.newarray .int, 2) := by decide +kernel
theorem dX9_init_61 : decode cX9_init 61 = .ok (.putfield 28, 3) := by decide +kernel
theorem dX9_init_64 : decode cX9_init 64 = .ok (.aload_n 0, 1) := by decide +kernel
theorem dX9_init_65 : decode cX9_init 65 = .ok (.bipush 60, 2) := by decide +kernel
theorem dX9_init_67 : decode cX9_init 67 = .ok (.newarray .int, 2) := by decide +kernel
theorem dX9_init_69 : decode cX9_init 69 = .ok (.putfield 31, 3) := by decide +kernel
theorem dX9_init_72 : decode cX9_init 72 = .ok (.aload_n 0, 1) := by decide +kernel
theorem dX9_init_73 : decode cX9_init 73 = .ok (.sipush 144, 3) := by decide +kernel
theorem dX9_init_76 : decode cX9_init 76 = .ok (.newarray .int, 2) := by decide +kernel
theorem dX9_init_78 : decode cX9_init 78 = .ok (.putfield 34, 3) := by decide +kernel
theorem dX9_init_81 : decode cX9_init 81 = .ok (.aload_n 0, 1) := by decide +kernel
theorem dX9_init_82 : decode cX9_init 82 = .ok (.sipush 144, 3) := by decide +kernel
theorem dX9_init_85 : decode cX9_init 85 = .ok (.newarray .boolean, 2) := by decide +kernel
theorem dX9_init_87 : decode cX9_init 87 = .ok (.putfield 37, 3) := by decide +kernel
theorem dX9_init_90 : decode cX9_init 90 = .ok (.aload_n 0, 1) := by decide +kernel
theorem dX9_init_91 : decode cX9_init 91 = .ok (.sipush 144, 3) := by decide +kernel
theorem dX9_init_94 : decode cX9_init 94 = .ok (.newarray .int, 2) := by decide +kernel
theorem dX9_init_96 : decode cX9_init 96 = .ok (.putfield 41, 3) := by decide +kernel
theorem dX9_init_99 : decode cX9_init 99 = .ok (.aload_n 0, 1) := by decide +kernel
theorem dX9_init_100 : decode cX9_init 100 = .ok (.invokevirtual 44, 3) := by decide +kernel
theorem dX9_init_103 : decode cX9_init 103 = .ok (.iconst 0, 1) := by decide +kernel
theorem dX9_init_104 : decode cX9_init 104 = .ok (.istore_n 1, 1) := by decide +kernel
theorem dX9_init_105 : decode cX9_init 105 = .ok (.iload_n 1, 1) := by decide +kernel
theorem dX9_init_106 : decode cX9_init 106 = .ok (.sipush 144, 3) := by decide +kernel
theorem dX9_init_109 : decode cX9_init 109 = .ok (.if_icmp .ge 18, 3) := by decide +kernel
theorem dX9_init_112 : decode cX9_init 112 = .ok (.aload_n 0, 1) := by decide +kernel
theorem dX9_init_113 : decode cX9_init 113 = .ok (.getfield 22, 3) := by decide +kernel
theorem dX9_init_116 : decode cX9_init 116 = .ok (.iconst 0, 1) := by decide +kernel
theorem dX9_init_117 : decode cX9_init 117 = .ok (.iload_n 1, 1) := by decide +kernel
theorem dX9_init_118 : decode cX9_init 118 = .ok (.iadd, 1) := by decide +kernel
theorem dX9_init_119 : decode cX9_init 119 = .ok (.iconst 5, 1) := by decide +kernel
theorem dX9_init_120 : decode cX9_init 120 = .ok (.iastore, 1) := by decide +kernel
theorem dX9_init_121 : decode cX9_init 121 = .ok (.iinc 1 1, 3) := by decide +kernel
theorem dX9_init_124 : decode cX9_init 124 = .ok (.goto (-19), 3) := by decide +kernel
theorem dX9_init_127 : decode cX9_init 127 = .ok (.aload_n 0, 1) := by decide +kernel
theorem dX9_init_128 : decode cX9_init 128 = .ok (.getfield 22, 3) := by decide +kernel
theorem dX9_init_131 : decode cX9_init 131 = .ok (.sipush 148, 3) := by decide +kernel
theorem dX9_init_134 : decode cX9_init 134 = .ok (.sipush 720, 3) := by decide +kernel
theorem dX9_init_137 : decode cX9_init 137 = .ok (.iastore, 1) := by decide +kernel
theorem dX9_init_138 : decode cX9_init 138 = .ok (.aload_n 0, 1) := by decide +kernel
theorem dX9_init_139 : decode cX9_init 139 = .ok (.getfield 22, 3) := by decide +kernel
theorem dX9_init_142 : decode cX9_init 142 = .ok (.sipush 144, 3) := by decide +kernel
theorem dX9_init_145 : decode cX9_init 145 = .ok (.bipush 20, 2) := by decide +kernel
theorem dX9_init_147 : decode cX9_init 147 = .ok (.iastore, 1) := by decide +kernel
theorem dX9_init_148 : decode cX9_init 148 = .ok (.aload_n 0, 1) := by decide +kernel
theorem dX9_init_149 : decode cX9_init 149 = .ok (.getfield 22, 3) := by decide +kernel
theorem dX9_init_152 : decode cX9_init 152 = .ok (.sipush 145, 3) := by decide +kernel
theorem dX9_init_155 : decode cX9_init 155 = .ok (.bipush 60, 2) := by decide +kernel
theorem dX9_init_157 : decode cX9_init 157 = .ok (.iastore, 1) := by decide +kernel
theorem dX9_init_158 : decode cX9_init 158 = .ok (.aload_n 0, 1) := by decide +kernel
theorem dX9_init_159 : decode cX9_init 159 = .ok (.getfield 22, 3) := by decide +kernel
theorem dX9_init_162 : decode cX9_init 162 = .ok (.sipush 146, 3) := by decide +kernel
theorem dX9_init_165 : decode cX9_init 165 = .ok (.bipush 15, 2) := by decide +kernel
theorem dX9_init_167 : decode cX9_init 167 = .ok (.iastore, 1) := by decide +kernel
theorem dX9_init_168 : decode cX9_init 168 = .ok (.aload_n 0, 1) := by decide +kernel
theorem dX9_init_169 : decode cX9_init 169 = .ok (.getfield 22, 3) := by decide +kernel
theorem dX9_init_172 : decode cX9_init 172 = .ok (.sipush 147, 3) := by decide +kernel
theorem dX9_init_175 : decode cX9_init 175 = .ok (.sipush 150, 3) := by decide +kernel
theorem dX9_init_178 : decode cX9_init 178 = .ok (.iastore, 1) := by decide +kernel
theorem dX9_init_179 : decode cX9_init 179 = .ok (.aload_n 0, 1) := by decide +kernel
theorem dX9_init_180 : decode cX9_init 180 = .ok (.getfield 22, 3) := by decide +kernel
theorem dX9_init_183 : decode cX9_init 183 = .ok (.sipush 153, 3) := by decide +kernel
theorem dX9_init_186 : decode cX9_init 186 = .ok (.bipush (-5), 2) := by decide +kernel
theorem dX9_init_188 : decode cX9_init 188 = .ok (.iastore, 1) := by decide +kernel
theorem dX9_init_189 : decode cX9_init 189 = .ok (.return_, 1) := by decide +kernel
theorem dX9_in_0 : decode cX9_in 0 = .ok (.iload_n 0, 1) := by decide +kernel
theorem dX9_in_1 : decode cX9_in 1 = .ok (.iload_n 1, 1) := by decide +kernel
theorem dX9_in_2 : decode cX9_in 2 = .ok (.if_icmp .lt 12, 3) := by decide +kernel
theorem dX9_in_5 : decode cX9_in 5 = .ok (.iload_n 0, 1) := by decide +kernel
theorem dX9_in_6 : decode cX9_in 6 = .ok (.iload_n 2, 1) := by decide +kernel
theorem dX9_in_7 : decode cX9_in 7 = .ok (.if_icmp .gt 7, 3) := by decide +kernel
theorem dX9_in_10 : decode cX9_in 10 = .ok (.iconst 1, 1) := by decide +kernel
theorem dX9_in_11 : decode cX9_in 11 = .ok (.goto 4, 3) := by decide +kernel
theorem dX9_in_14 : decode cX9_in 14 = .ok (.iconst 0, 1) := by decide +kernel
theorem dX9_in_15 : decode cX9_in 15 = .ok (.ireturn, 1) := by decide +kernel
theorem dX9_wave_0 : decode cX9_wave 0 = .ok (.sipush 200, 3) := by decide +kernel
theorem dX9_wave_3 : decode cX9_wave 3 = .ok (.iload_n 0, 1) := by decide +kernel
theorem dX9_wave_4 : decode cX9_wave 4 = .ok (.imul, 1) := by decide +kernel
theorem dX9_wave_5 : decode cX9_wave 5 = .ok (.iload_n 1, 1) := by decide +kernel
theorem dX9_wave_6 : decode cX9_wave 6 = .ok (.imul, 1) := by decide +kernel
theorem dX9_wave_7 : decode cX9_wave 7 = .ok (.bipush 11, 2) := by decide +kernel
theorem dX9_wave_9 : decode cX9_wave 9 = .ok (.idiv, 1) := by decide +kernel
theorem dX9_wave_10 : decode cX9_wave 10 = .ok (.sipush 400, 3) := by decide +kernel
theorem dX9_wave_13 : decode cX9_wave 13 = .ok (.irem, 1) := by decide +kernel
theorem dX9_wave_14 : decode cX9_wave 14 = .ok (.istore_n 2, 1) := by decide +kernel
theorem dX9_wave_15 : decode cX9_wave 15 = .ok (.iload_n 2, 1) := by decide +kernel
theorem dX9_wave_16 : decode cX9_wave 16 = .ok (.sipush 200, 3) := by decide +kernel
theorem dX9_wave_19 : decode cX9_wave 19 = .ok (.if_icmp .gt 10, 3) := by decide +kernel
theorem dX9_wave_22 : decode cX9_wave 22 = .ok (.bipush 100, 2) := by decide +kernel
theorem dX9_wave_24 : decode cX9_wave 24 = .ok (.iload_n 2, 1) := by decide +kernel
theorem dX9_wave_25 : decode cX9_wave 25 = .ok (.isub, 1) := by decide +kernel
theorem dX9_wave_26 : decode cX9_wave 26 = .ok (.goto 8, 3) := by decide +kernel
theorem dX9_wave_29 : decode cX9_wave 29 = .ok (.iload_n 2, 1) := by decide +kernel
theorem dX9_wave_30 : decode cX9_wave 30 = .ok (.sipush 300, 3) := by decide +kernel
theorem dX9_wave_33 : decode cX9_wave 33 = .ok (.isub, 1) := by decide +kernel
theorem dX9_wave_34 : decode cX9_wave 34 = .ok (.ireturn, 1) := by decide +kernel
theorem dX9_size_0 : decode cX9_size 0 = .ok (.iload_n 0, 1) := by decide +kernel
theorem dX9_size_1 : decode cX9_size 1 = .ok (.ifCond .ge 8, 3) := by decide +kernel
theorem dX9_size_4 : decode cX9_size 4 = .ok (.iload_n 0, 1) := by decide +kernel
theorem dX9_size_5 : decode cX9_size 5 = .ok (.ineg, 1) := by decide +kernel
theorem dX9_size_6 : decode cX9_size 6 = .ok (.goto 4, 3) := by decide +kernel
theorem dX9_size_9 : decode cX9_size 9 = .ok (.iload_n 0, 1) := by decide +kernel
theorem dX9_size_10 : decode cX9_size 10 = .ok (.ireturn, 1) := by decide +kernel
theorem dX9_noteOf_0 : decode cX9_noteOf 0 = .ok (.bipush 10, 2) := by decide +kernel
theorem dX9_noteOf_2 : decode cX9_noteOf 2 = .ok (.aload_n 0, 1) := by decide +kernel
theorem dX9_noteOf_3 : decode cX9_noteOf 3 = .ok (.getfield 7, 3) := by decide +kernel
theorem dX9_noteOf_6 : decode cX9_noteOf 6 = .ok (.iload_n 1, 1) := by decide +kernel
theorem dX9_noteOf_7 : decode cX9_noteOf 7 = .ok (.iaload, 1) := by decide +kernel
theorem dX9_noteOf_8 : decode cX9_noteOf 8 = .ok (.aload_n 0, 1) := by decide +kernel
theorem dX9_noteOf_9 : decode cX9_noteOf 9 = .ok (.getfield 7, 3) := by decide +kernel
theorem dX9_noteOf_12 : decode cX9_noteOf 12 = .ok (.iload_n 1, 1) := by decide +kernel
theorem dX9_noteOf_13 : decode cX9_noteOf 13 = .ok (.iaload, 1) := by decide +kernel
theorem dX9_noteOf_14 : decode cX9_noteOf 14 = .ok (.imul, 1) := by decide +kernel
theorem dX9_noteOf_15 : decode cX9_noteOf 15 = .ok (.aload_n 0, 1) := by decide +kernel
theorem dX9_noteOf_16 : decode cX9_noteOf 16 = .ok (.getfield 13, 3) := by decide +kernel
theorem dX9_noteOf_19 : decode cX9_noteOf 19 = .ok (.iload_n 1, 1) := by decide +kernel
theorem dX9_noteOf_20 : decode cX9_noteOf 20 = .ok (.iaload, 1) := by decide +kernel
theorem dX9_noteOf_21 : decode cX9_noteOf 21 = .ok (.aload_n 0, 1) := by decide +kernel
theorem dX9_noteOf_22 : decode cX9_noteOf 22 = .ok (.getfield 13, 3) := by decide +kernel
theorem dX9_noteOf_25 : decode cX9_noteOf 25 = .ok (.iload_n 1, 1) := by decide +kernel
theorem dX9_noteOf_26 : decode cX9_noteOf 26 = .ok (.iaload, 1) := by decide +kernel
theorem dX9_noteOf_27 : decode cX9_noteOf 27 = .ok (.imul, 1) := by decide +kernel
theorem dX9_noteOf_28 : decode cX9_noteOf 28 = .ok (.iadd, 1) := by decide +kernel
theorem dX9_noteOf_29 : decode cX9_noteOf 29 = .ok (.imul, 1) := by decide +kernel
theorem dX9_noteOf_30 : decode cX9_noteOf 30 = .ok (.aload_n 0, 1) := by decide +kernel
theorem dX9_noteOf_31 : decode cX9_noteOf 31 = .ok (.getfield 16, 3) := by decide +kernel
theorem dX9_noteOf_34 : decode cX9_noteOf 34 = .ok (.iload_n 1, 1) := by decide +kernel
theorem dX9_noteOf_35 : decode cX9_noteOf 35 = .ok (.iaload, 1) := by decide +kernel
theorem dX9_noteOf_36 : decode cX9_noteOf 36 = .ok (.iadd, 1) := by decide +kernel
theorem dX9_noteOf_37 : decode cX9_noteOf 37 = .ok (.ireturn, 1) := by decide +kernel
set_option maxRecDepth 20000 in
theorem ggX9_findWays_X9_wave : GoodIn wsX9_findWays wsX9_wave := goodIn_r _ [8] (by decide +kernel) (by decide +kernel)
set_option maxRecDepth 20000 in
theorem gX9_findWays_X9_wave : GoodIn wsX9_findWays (va_wsS RX9 47 yX9_wave wsX9_wave) := goodIn_app (goodIn_of _ (by decide +kernel)) ggX9_findWays_X9_wave
set_option maxRecDepth 20000 in
theorem ggX9_findWays_X9_size : GoodIn wsX9_findWays wsX9_size := goodIn_r _ [11] (by decide +kernel) (by decide +kernel)
set_option maxRecDepth 20000 in
theorem gX9_findWays_X9_size : GoodIn wsX9_findWays (va_wsS RX9 51 yX9_size wsX9_size) := goodIn_app (goodIn_of _ (by decide +kernel)) ggX9_findWays_X9_size
theorem dX9_findWays_0 : decode cX9_findWays 0 = .ok (.iconst 0, 1) := by decide +kernel
theorem dX9_findWays_1 : decode cX9_findWays 1 = .ok (.istore_n 1, 1) := by decide +kernel
theorem dX9_findWays_2 : decode cX9_findWays 2 = .ok (.bipush 10, 2) := by decide +kernel
theorem dX9_findWays_4 : decode cX9_findWays 4 = .ok (.istore_n 2, 1) := by decide +kernel
theorem dX9_findWays_5 : decode cX9_findWays 5 = .ok (.iload_n 2, 1) := by decide +kernel
theorem dX9_findWays_6 : decode cX9_findWays 6 = .ok (.sipush 721, 3) := by decide +kernel
theorem dX9_findWays_9 : decode cX9_findWays 9 = .ok (.if_icmp .gt 119, 3) := by decide +kernel
theorem dX9_findWays_12 : decode cX9_findWays 12 = .ok (.iconst 0, 1) := by decide +kernel
theorem dX9_findWays_13 : decode cX9_findWays 13 = .ok (.istore_n 3, 1) := by decide +kernel
theorem dX9_findWays_14 : decode cX9_findWays 14 = .ok (.iload_n 3, 1) := by decide +kernel
theorem dX9_findWays_15 : decode cX9_findWays 15 = .ok (.bipush 6, 2) := by decide +kernel
theorem dX9_findWays_17 : decode cX9_findWays 17 = .ok (.if_icmp .gt 105, 3) := by decide +kernel
theorem dX9_findWays_20 : decode cX9_findWays 20 = .ok (.iload_n 3, 1) := by decide +kernel
theorem dX9_findWays_21 : decode cX9_findWays 21 = .ok (.istore 4, 2) := by decide +kernel
theorem dX9_findWays_23 : decode cX9_findWays 23 = .ok (.iload 4, 2) := by decide +kernel
theorem dX9_findWays_25 : decode cX9_findWays 25 = .ok (.bipush 6, 2) := by decide +kernel
theorem dX9_findWays_27 : decode cX9_findWays 27 = .ok (.if_icmp .gt 89, 3) := by decide +kernel
theorem dX9_findWays_30 : decode cX9_findWays 30 = .ok (.iload_n 2, 1) := by decide +kernel
theorem dX9_findWays_31 : decode cX9_findWays 31 = .ok (.bipush 10, 2) := by decide +kernel
theorem dX9_findWays_33 : decode cX9_findWays 33 = .ok (.irem, 1) := by decide +kernel
theorem dX9_findWays_34 : decode cX9_findWays 34 = .ok (.istore 5, 2) := by decide +kernel
theorem dX9_findWays_36 : decode cX9_findWays 36 = .ok (.bipush 10, 2) := by decide +kernel
theorem dX9_findWays_38 : decode cX9_findWays 38 = .ok (.iload_n 3, 1) := by decide +kernel
theorem dX9_findWays_39 : decode cX9_findWays 39 = .ok (.iload_n 3, 1) := by decide +kernel
theorem dX9_findWays_40 : decode cX9_findWays 40 = .ok (.imul, 1) := by decide +kernel
theorem dX9_findWays_41 : decode cX9_findWays 41 = .ok (.iload 4, 2) := by decide +kernel
theorem dX9_findWays_43 : decode cX9_findWays 43 = .ok (.iload 4, 2) := by decide +kernel
theorem dX9_findWays_45 : decode cX9_findWays 45 = .ok (.imul, 1) := by decide +kernel
theorem dX9_findWays_46 : decode cX9_findWays 46 = .ok (.iadd, 1) := by decide +kernel
theorem dX9_findWays_47 : decode cX9_findWays 47 = .ok (.imul, 1) := by decide +kernel
theorem dX9_findWays_48 : decode cX9_findWays 48 = .ok (.iload 5, 2) := by decide +kernel
theorem dX9_findWays_50 : decode cX9_findWays 50 = .ok (.iadd, 1) := by decide +kernel
theorem dX9_findWays_51 : decode cX9_findWays 51 = .ok (.iload_n 2, 1) := by decide +kernel
theorem dX9_findWays_52 : decode cX9_findWays 52 = .ok (.if_icmp .ne 24, 3) := by decide +kernel
theorem dX9_findWays_55 : decode cX9_findWays 55 = .ok (.iload 5, 2) := by decide +kernel
theorem dX9_findWays_57 : decode cX9_findWays 57 = .ok (.iconst 2, 1) := by decide +kernel
theorem dX9_findWays_58 : decode cX9_findWays 58 = .ok (.if_icmp .ge 18, 3) := by decide +kernel
theorem dX9_findWays_61 : decode cX9_findWays 61 = .ok (.iload_n 3, 1) := by decide +kernel
theorem dX9_findWays_62 : decode cX9_findWays 62 = .ok (.iload 4, 2) := by decide +kernel
theorem dX9_findWays_64 : decode cX9_findWays 64 = .ok (.if_icmp .lt 8, 3) := by decide +kernel
theorem dX9_findWays_67 : decode cX9_findWays 67 = .ok (.iload 5, 2) := by decide +kernel
theorem dX9_findWays_69 : decode cX9_findWays 69 = .ok (.ifCond .ne 7, 3) := by decide +kernel
theorem dX9_findWays_72 : decode cX9_findWays 72 = .ok (.iconst 1, 1) := by decide +kernel
theorem dX9_findWays_73 : decode cX9_findWays 73 = .ok (.goto 4, 3) := by decide +kernel
theorem dX9_findWays_76 : decode cX9_findWays 76 = .ok (.iconst 0, 1) := by decide +kernel
theorem dX9_findWays_77 : decode cX9_findWays 77 = .ok (.istore 6, 2) := by decide +kernel
theorem dX9_findWays_79 : decode cX9_findWays 79 = .ok (.iload 6, 2) := by decide +kernel
theorem dX9_findWays_81 : decode cX9_findWays 81 = .ok (.ifCond .eq 29, 3) := by decide +kernel
theorem dX9_findWays_84 : decode cX9_findWays 84 = .ok (.aload_n 0, 1) := by decide +kernel
theorem dX9_findWays_85 : decode cX9_findWays 85 = .ok (.getfield 7, 3) := by decide +kernel
theorem dX9_findWays_88 : decode cX9_findWays 88 = .ok (.iload_n 1, 1) := by decide +kernel
theorem dX9_findWays_89 : decode cX9_findWays 89 = .ok (.iload_n 3, 1) := by decide +kernel
theorem dX9_findWays_90 : decode cX9_findWays 90 = .ok (.iastore, 1) := by decide +kernel
theorem dX9_findWays_91 : decode cX9_findWays 91 = .ok (.aload_n 0, 1) := by decide +kernel
theorem dX9_findWays_92 : decode cX9_findWays 92 = .ok (.getfield 13, 3) := by decide +kernel
theorem dX9_findWays_95 : decode cX9_findWays 95 = .ok (.iload_n 1, 1) := by decide +kernel
theorem dX9_findWays_96 : decode cX9_findWays 96 = .ok (.iload 4, 2) := by decide +kernel
theorem dX9_findWays_98 : decode cX9_findWays 98 = .ok (.iastore, 1) := by decide +kernel
theorem dX9_findWays_99 : decode cX9_findWays 99 = .ok (.aload_n 0, 1) := by decide +kernel
theorem dX9_findWays_100 : decode cX9_findWays 100 = .ok (.getfield 16, 3) := by decide +kernel
theorem dX9_findWays_103 : decode cX9_findWays 103 = .ok (.iload_n 1, 1) := by decide +kernel
theorem dX9_findWays_104 : decode cX9_findWays 104 = .ok (.iload 5, 2) := by decide +kernel
theorem dX9_findWays_106 : decode cX9_findWays 106 = .ok (.iastore, 1) := by decide +kernel
theorem dX9_findWays_107 : decode cX9_findWays 107 = .ok (.iinc 1 1, 3) := by decide +kernel
theorem dX9_findWays_110 : decode cX9_findWays 110 = .ok (.iinc 4 1, 3) := by decide +kernel
theorem dX9_findWays_113 : decode cX9_findWays 113 = .ok (.goto (-90), 3) := by decide +kernel
theorem dX9_findWays_116 : decode cX9_findWays 116 = .ok (.iinc 3 1, 3) := by decide +kernel
theorem dX9_findWays_119 : decode cX9_findWays 119 = .ok (.goto (-105), 3) := by decide +kernel
theorem dX9_findWays_122 : decode cX9_findWays 122 = .ok (.iinc 2 1, 3) := by decide +kernel
theorem dX9_findWays_125 : decode cX9_findWays 125 = .ok (.goto (-120), 3) := by decide +kernel
theorem dX9_findWays_128 : decode cX9_findWays 128 = .ok (.iconst 0, 1) := by decide +kernel
theorem dX9_findWays_129 : decode cX9_findWays 129 = .ok (.istore_n 2, 1) := by decide +kernel
theorem dX9_findWays_130 : decode cX9_findWays 130 = .ok (.iload_n 2, 1) := by decide +kernel
theorem dX9_findWays_131 : decode cX9_findWays 131 = .ok (.sipush 6912, 3) := by decide +kernel
theorem dX9_findWays_134 : decode cX9_findWays 134 = .ok (.if_icmp .ge 116, 3) := by decide +kernel
theorem dX9_findWays_137 : decode cX9_findWays 137 = .ok (.iload_n 2, 1) := by decide +kernel
theorem dX9_findWays_138 : decode cX9_findWays 138 = .ok (.sipush 144, 3) := by decide +kernel
theorem dX9_findWays_141 : decode cX9_findWays 141 = .ok (.idiv, 1) := by decide +kernel
theorem dX9_findWays_142 : decode cX9_findWays 142 = .ok (.istore_n 3, 1) := by decide +kernel
theorem dX9_findWays_143 : decode cX9_findWays 143 = .ok (.iload_n 2, 1) := by decide +kernel
theorem dX9_findWays_144 : decode cX9_findWays 144 = .ok (.bipush 12, 2) := by decide +kernel
theorem dX9_findWays_146 : decode cX9_findWays 146 = .ok (.irem, 1) := by decide +kernel
theorem dX9_findWays_147 : decode cX9_findWays 147 = .ok (.istore 4, 2) := by decide +kernel
theorem dX9_findWays_149 : decode cX9_findWays 149 = .ok (.iload_n 2, 1) := by decide +kernel
theorem dX9_findWays_150 : decode cX9_findWays 150 = .ok (.sipush 144, 3) := by decide +kernel
theorem dX9_findWays_153 : decode cX9_findWays 153 = .ok (.irem, 1) := by decide +kernel
theorem dX9_findWays_154 : decode cX9_findWays 154 = .ok (.bipush 12, 2) := by decide +kernel
theorem dX9_findWays_156 : decode cX9_findWays 156 = .ok (.idiv, 1) := by decide +kernel
theorem dX9_findWays_157 : decode cX9_findWays 157 = .ok (.istore 5, 2) := by decide +kernel
theorem dX9_findWays_159 : decode cX9_findWays 159 = .ok (.aload_n 0, 1) := by decide +kernel
theorem dX9_findWays_160 : decode cX9_findWays 160 = .ok (.getfield 7, 3) := by decide +kernel
theorem dX9_findWays_163 : decode cX9_findWays 163 = .ok (.iload_n 3, 1) := by decide +kernel
theorem dX9_findWays_164 : decode cX9_findWays 164 = .ok (.iaload, 1) := by decide +kernel
theorem dX9_findWays_165 : decode cX9_findWays 165 = .ok (.iload 4, 2) := by decide +kernel
theorem dX9_findWays_167 : decode cX9_findWays 167 = .ok (.invokestatic 47, 3) := by decide +kernel
theorem dX9_findWays_170 : decode cX9_findWays 170 = .ok (.aload_n 0, 1) := by decide +kernel
theorem dX9_findWays_171 : decode cX9_findWays 171 = .ok (.getfield 13, 3) := by decide +kernel
theorem dX9_findWays_174 : decode cX9_findWays 174 = .ok (.iload_n 3, 1) := by decide +kernel
theorem dX9_findWays_175 : decode cX9_findWays 175 = .ok (.iaload, 1) := by decide +kernel
theorem dX9_findWays_176 : decode cX9_findWays 176 = .ok (.iload 5, 2) := by decide +kernel
theorem dX9_findWays_178 : decode cX9_findWays 178 = .ok (.invokestatic 47, 3) := by decide +kernel
theorem dX9_findWays_181 : decode cX9_findWays 181 = .ok (.imul, 1) := by decide +kernel
theorem dX9_findWays_182 : decode cX9_findWays 182 = .ok (.istore 6, 2) := by decide +kernel
theorem dX9_findWays_184 : decode cX9_findWays 184 = .ok (.aload_n 0, 1) := by decide +kernel
theorem dX9_findWays_185 : decode cX9_findWays 185 = .ok (.getfield 13, 3) := by decide +kernel
theorem dX9_findWays_188 : decode cX9_findWays 188 = .ok (.iload_n 3, 1) := by decide +kernel
theorem dX9_findWays_189 : decode cX9_findWays 189 = .ok (.iaload, 1) := by decide +kernel
theorem dX9_findWays_190 : decode cX9_findWays 190 = .ok (.iload 4, 2) := by decide +kernel
theorem dX9_findWays_192 : decode cX9_findWays 192 = .ok (.invokestatic 47, 3) := by decide +kernel
theorem dX9_findWays_195 : decode cX9_findWays 195 = .ok (.aload_n 0, 1) := by decide +kernel
theorem dX9_findWays_196 : decode cX9_findWays 196 = .ok (.getfield 7, 3) := by decide +kernel
theorem dX9_findWays_199 : decode cX9_findWays 199 = .ok (.iload_n 3, 1) := by decide +kernel
theorem dX9_findWays_200 : decode cX9_findWays 200 = .ok (.iaload, 1) := by decide +kernel
theorem dX9_findWays_201 : decode cX9_findWays 201 = .ok (.iload 5, 2) := by decide +kernel
theorem dX9_findWays_203 : decode cX9_findWays 203 = .ok (.invokestatic 47, 3) := by decide +kernel
theorem dX9_findWays_206 : decode cX9_findWays 206 = .ok (.imul, 1) := by decide +kernel
theorem dX9_findWays_207 : decode cX9_findWays 207 = .ok (.istore 7, 2) := by decide +kernel
theorem dX9_findWays_209 : decode cX9_findWays 209 = .ok (.aload_n 0, 1) := by decide +kernel
theorem dX9_findWays_210 : decode cX9_findWays 210 = .ok (.getfield 19, 3) := by decide +kernel
theorem dX9_findWays_213 : decode cX9_findWays 213 = .ok (.iload_n 2, 1) := by decide +kernel
theorem dX9_findWays_214 : decode cX9_findWays 214 = .ok (.aload_n 0, 1) := by decide +kernel
theorem dX9_findWays_215 : decode cX9_findWays 215 = .ok (.getfield 16, 3) := by decide +kernel
theorem dX9_findWays_218 : decode cX9_findWays 218 = .ok (.iload_n 3, 1) := by decide +kernel
theorem dX9_findWays_219 : decode cX9_findWays 219 = .ok (.iaload, 1) := by decide +kernel
theorem dX9_findWays_220 : decode cX9_findWays 220 = .ok (.iconst 1, 1) := by decide +kernel
theorem dX9_findWays_221 : decode cX9_findWays 221 = .ok (.if_icmp .ne 11, 3) := by decide +kernel
theorem dX9_findWays_224 : decode cX9_findWays 224 = .ok (.iload 6, 2) := by decide +kernel
theorem dX9_findWays_226 : decode cX9_findWays 226 = .ok (.iload 7, 2) := by decide +kernel
theorem dX9_findWays_228 : decode cX9_findWays 228 = .ok (.isub, 1) := by decide +kernel
theorem dX9_findWays_229 : decode cX9_findWays 229 = .ok (.goto 8, 3) := by decide +kernel
theorem dX9_findWays_232 : decode cX9_findWays 232 = .ok (.iload 6, 2) := by decide +kernel
theorem dX9_findWays_234 : decode cX9_findWays 234 = .ok (.iload 7, 2) := by decide +kernel
theorem dX9_findWays_236 : decode cX9_findWays 236 = .ok (.iadd, 1) := by decide +kernel
theorem dX9_findWays_237 : decode cX9_findWays 237 = .ok (.bipush 100, 2) := by decide +kernel
theorem dX9_findWays_239 : decode cX9_findWays 239 = .ok (.idiv, 1) := by decide +kernel
theorem dX9_findWays_240 : decode cX9_findWays 240 = .ok (.invokestatic 51, 3) := by decide +kernel
theorem dX9_findWays_243 : decode cX9_findWays 243 = .ok (.iastore, 1) := by decide +kernel
theorem dX9_findWays_244 : decode cX9_findWays 244 = .ok (.iinc 2 1, 3) := by decide +kernel
theorem dX9_findWays_247 : decode cX9_findWays 247 = .ok (.goto (-117), 3) := by decide +kernel
theorem dX9_findWays_250 : decode cX9_findWays 250 = .ok (.return_, 1) := by decide +kernel
theorem dX9_swingAt_0 : decode cX9_swingAt 0 = .ok (.aload_n 0, 1) := by decide +kernel
theorem dX9_swingAt_1 : decode cX9_swingAt 1 = .ok (.getfield 19, 3) := by decide +kernel
theorem dX9_swingAt_4 : decode cX9_swingAt 4 = .ok (.sipush 144, 3) := by decide +kernel
theorem dX9_swingAt_7 : decode cX9_swingAt 7 = .ok (.iload_n 1, 1) := by decide +kernel
theorem dX9_swingAt_8 : decode cX9_swingAt 8 = .ok (.imul, 1) := by decide +kernel
theorem dX9_swingAt_9 : decode cX9_swingAt 9 = .ok (.iload_n 2, 1) := by decide +kernel
theorem dX9_swingAt_10 : decode cX9_swingAt 10 = .ok (.iadd, 1) := by decide +kernel
theorem dX9_swingAt_11 : decode cX9_swingAt 11 = .ok (.iaload, 1) := by decide +kernel
theorem dX9_swingAt_12 : decode cX9_swingAt 12 = .ok (.ireturn, 1) := by decide +kernel
set_option maxRecDepth 20000 in
theorem ggX9_isOn_X9_in : GoodIn wsX9_isOn wsX9_in := goodIn_r _ [4] (by decide +kernel) (by decide +kernel)
set_option maxRecDepth 20000 in
theorem gX9_isOn_X9_in : GoodIn wsX9_isOn (va_wsS RX9 55 yX9_in wsX9_in) := goodIn_app (goodIn_of _ (by decide +kernel)) ggX9_isOn_X9_in
theorem dX9_isOn_0 : decode cX9_isOn 0 = .ok (.iload_n 0, 1) := by decide +kernel
theorem dX9_isOn_1 : decode cX9_isOn 1 = .ok (.iconst 0, 1) := by decide +kernel
theorem dX9_isOn_2 : decode cX9_isOn 2 = .ok (.bipush 11, 2) := by decide +kernel
theorem dX9_isOn_4 : decode cX9_isOn 4 = .ok (.invokestatic 55, 3) := by decide +kernel
theorem dX9_isOn_7 : decode cX9_isOn 7 = .ok (.ifCond .eq 17, 3) := by decide +kernel
theorem dX9_isOn_10 : decode cX9_isOn 10 = .ok (.iload_n 1, 1) := by decide +kernel
theorem dX9_isOn_11 : decode cX9_isOn 11 = .ok (.iconst 0, 1) := by decide +kernel
theorem dX9_isOn_12 : decode cX9_isOn 12 = .ok (.bipush 11, 2) := by decide +kernel
theorem dX9_isOn_14 : decode cX9_isOn 14 = .ok (.invokestatic 55, 3) := by decide +kernel
theorem dX9_isOn_17 : decode cX9_isOn 17 = .ok (.ifCond .eq 7, 3) := by decide +kernel
theorem dX9_isOn_20 : decode cX9_isOn 20 = .ok (.iconst 1, 1) := by decide +kernel
theorem dX9_isOn_21 : decode cX9_isOn 21 = .ok (.goto 4, 3) := by decide +kernel
theorem dX9_isOn_24 : decode cX9_isOn 24 = .ok (.iconst 0, 1) := by decide +kernel
theorem dX9_isOn_25 : decode cX9_isOn 25 = .ok (.ireturn, 1) := by decide +kernel
set_option maxRecDepth 20000 in
theorem ggX9_isWay_X9_in : GoodIn wsX9_isWay wsX9_in := goodIn_r _ [4] (by decide +kernel) (by decide +kernel)
set_option maxRecDepth 20000 in
theorem gX9_isWay_X9_in : GoodIn wsX9_isWay (va_wsS RX9 55 yX9_in wsX9_in) := goodIn_app (goodIn_of _ (by decide +kernel)) ggX9_isWay_X9_in
theorem dX9_isWay_0 : decode cX9_isWay 0 = .ok (.iload_n 0, 1) := by decide +kernel
theorem dX9_isWay_1 : decode cX9_isWay 1 = .ok (.iconst 0, 1) := by decide +kernel
theorem dX9_isWay_2 : decode cX9_isWay 2 = .ok (.bipush 47, 2) := by decide +kernel
theorem dX9_isWay_4 : decode cX9_isWay 4 = .ok (.invokestatic 55, 3) := by decide +kernel
theorem dX9_isWay_7 : decode cX9_isWay 7 = .ok (.ireturn, 1) := by decide +kernel
set_option maxRecDepth 20000 in
theorem ggX9_isBow_X9_in : GoodIn wsX9_isBow wsX9_in := goodIn_r _ [4] (by decide +kernel) (by decide +kernel)
set_option maxRecDepth 20000 in
theorem gX9_isBow_X9_in : GoodIn wsX9_isBow (va_wsS RX9 55 yX9_in wsX9_in) := goodIn_app (goodIn_of _ (by decide +kernel)) ggX9_isBow_X9_in
theorem dX9_isBow_0 : decode cX9_isBow 0 = .ok (.iload_n 0, 1) := by decide +kernel
theorem dX9_isBow_1 : decode cX9_isBow 1 = .ok (.iconst 0, 1) := by decide +kernel
theorem dX9_isBow_2 : decode cX9_isBow 2 = .ok (.iconst 3, 1) := by decide +kernel
theorem dX9_isBow_3 : decode cX9_isBow 3 = .ok (.invokestatic 55, 3) := by decide +kernel
theorem dX9_isBow_6 : decode cX9_isBow 6 = .ok (.ifCond .eq 17, 3) := by decide +kernel
theorem dX9_isBow_9 : decode cX9_isBow 9 = .ok (.iload_n 1, 1) := by decide +kernel
theorem dX9_isBow_10 : decode cX9_isBow 10 = .ok (.iconst 0, 1) := by decide +kernel
theorem dX9_isBow_11 : decode cX9_isBow 11 = .ok (.bipush 11, 2) := by decide +kernel
theorem dX9_isBow_13 : decode cX9_isBow 13 = .ok (.invokestatic 55, 3) := by decide +kernel
theorem dX9_isBow_16 : decode cX9_isBow 16 = .ok (.ifCond .eq 7, 3) := by decide +kernel
theorem dX9_isBow_19 : decode cX9_isBow 19 = .ok (.iconst 1, 1) := by decide +kernel
theorem dX9_isBow_20 : decode cX9_isBow 20 = .ok (.goto 4, 3) := by decide +kernel
theorem dX9_isBow_23 : decode cX9_isBow 23 = .ok (.iconst 0, 1) := by decide +kernel
theorem dX9_isBow_24 : decode cX9_isBow 24 = .ok (.ireturn, 1) := by decide +kernel
theorem dX9_know_0 : decode cX9_know 0 = .ok (.aload_n 0, 1) := by decide +kernel
theorem dX9_know_1 : decode cX9_know 1 = .ok (.getfield 59, 3) := by decide +kernel
theorem dX9_know_4 : decode cX9_know 4 = .ok (.iconst 4, 1) := by decide +kernel
theorem dX9_know_5 : decode cX9_know 5 = .ok (.if_icmp .ne 44, 3) := by decide +kernel
theorem dX9_know_8 : decode cX9_know 8 = .ok (.iconst 0, 1) := by decide +kernel
theorem dX9_know_9 : decode cX9_know 9 = .ok (.istore_n 1, 1) := by decide +kernel
theorem dX9_know_10 : decode cX9_know 10 = .ok (.iload_n 1, 1) := by decide +kernel
theorem dX9_know_11 : decode cX9_know 11 = .ok (.sipush 624, 3) := by decide +kernel
theorem dX9_know_14 : decode cX9_know 14 = .ok (.if_icmp .ge 25, 3) := by decide +kernel
theorem dX9_know_17 : decode cX9_know 17 = .ok (.aload_n 0, 1) := by decide +kernel
theorem dX9_know_18 : decode cX9_know 18 = .ok (.getfield 25, 3) := by decide +kernel
theorem dX9_know_21 : decode cX9_know 21 = .ok (.iload_n 1, 1) := by decide +kernel
theorem dX9_know_22 : decode cX9_know 22 = .ok (.aload_n 0, 1) := by decide +kernel
theorem dX9_know_23 : decode cX9_know 23 = .ok (.getfield 25, 3) := by decide +kernel
theorem dX9_know_26 : decode cX9_know 26 = .ok (.sipush 208, 3) := by decide +kernel
theorem dX9_know_29 : decode cX9_know 29 = .ok (.iload_n 1, 1) := by decide +kernel
theorem dX9_know_30 : decode cX9_know 30 = .ok (.iadd, 1) := by decide +kernel
theorem dX9_know_31 : decode cX9_know 31 = .ok (.iaload, 1) := by decide +kernel
theorem dX9_know_32 : decode cX9_know 32 = .ok (.iastore, 1) := by decide +kernel
theorem dX9_know_33 : decode cX9_know 33 = .ok (.iinc 1 1, 3) := by decide +kernel
theorem dX9_know_36 : decode cX9_know 36 = .ok (.goto (-26), 3) := by decide +kernel
theorem dX9_know_39 : decode cX9_know 39 = .ok (.aload_n 0, 1) := by decide +kernel
theorem dX9_know_40 : decode cX9_know 40 = .ok (.dup, 1) := by decide +kernel
theorem dX9_know_41 : decode cX9_know 41 = .ok (.getfield 59, 3) := by decide +kernel
theorem dX9_know_44 : decode cX9_know 44 = .ok (.iconst 1, 1) := by decide +kernel
theorem dX9_know_45 : decode cX9_know 45 = .ok (.isub, 1) := by decide +kernel
theorem dX9_know_46 : decode cX9_know 46 = .ok (.putfield 59, 3) := by decide +kernel
theorem dX9_know_49 : decode cX9_know 49 = .ok (.iconst 0, 1) := by decide +kernel
theorem dX9_know_50 : decode cX9_know 50 = .ok (.istore_n 1, 1) := by decide +kernel
theorem dX9_know_51 : decode cX9_know 51 = .ok (.iload_n 1, 1) := by decide +kernel
theorem dX9_know_52 : decode cX9_know 52 = .ok (.sipush 208, 3) := by decide +kernel
theorem dX9_know_55 : decode cX9_know 55 = .ok (.if_icmp .ge 30, 3) := by decide +kernel
theorem dX9_know_58 : decode cX9_know 58 = .ok (.aload_n 0, 1) := by decide +kernel
theorem dX9_know_59 : decode cX9_know 59 = .ok (.getfield 25, 3) := by decide +kernel
theorem dX9_know_62 : decode cX9_know 62 = .ok (.sipush 208, 3) := by decide +kernel
theorem dX9_know_65 : decode cX9_know 65 = .ok (.aload_n 0, 1) := by decide +kernel
theorem dX9_know_66 : decode cX9_know 66 = .ok (.getfield 59, 3) := by decide +kernel
theorem dX9_know_69 : decode cX9_know 69 = .ok (.imul, 1) := by decide +kernel
theorem dX9_know_70 : decode cX9_know 70 = .ok (.iload_n 1, 1) := by decide +kernel
theorem dX9_know_71 : decode cX9_know 71 = .ok (.iadd, 1) := by decide +kernel
theorem dX9_know_72 : decode cX9_know 72 = .ok (.aload_n 0, 1) := by decide +kernel
theorem dX9_know_73 : decode cX9_know 73 = .ok (.getfield 22, 3) := by decide +kernel
theorem dX9_know_76 : decode cX9_know 76 = .ok (.iload_n 1, 1) := by decide +kernel
theorem dX9_know_77 : decode cX9_know 77 = .ok (.iaload, 1) := by decide +kernel
theorem dX9_know_78 : decode cX9_know 78 = .ok (.iastore, 1) := by decide +kernel
theorem dX9_know_79 : decode cX9_know 79 = .ok (.iinc 1 1, 3) := by decide +kernel
theorem dX9_know_82 : decode cX9_know 82 = .ok (.goto (-31), 3) := by decide +kernel
theorem dX9_know_85 : decode cX9_know 85 = .ok (.aload_n 0, 1) := by decide +kernel
theorem dX9_know_86 : decode cX9_know 86 = .ok (.dup, 1) := by decide +kernel
theorem dX9_know_87 : decode cX9_know 87 = .ok (.getfield 59, 3) := by decide +kernel
theorem dX9_know_90 : decode cX9_know 90 = .ok (.iconst 1, 1) := by decide +kernel
theorem dX9_know_91 : decode cX9_know 91 = .ok (.iadd, 1) := by decide +kernel
theorem dX9_know_92 : decode cX9_know 92 = .ok (.putfield 59, 3) := by decide +kernel
theorem dX9_know_95 : decode cX9_know 95 = .ok (.return_, 1) := by decide +kernel
theorem dX9_bowPlace_0 : decode cX9_bowPlace 0 = .ok (.iload_n 0, 1) := by decide +kernel
theorem dX9_bowPlace_1 : decode cX9_bowPlace 1 = .ok (.ifCond .ne 7, 3) := by decide +kernel
theorem dX9_bowPlace_4 : decode cX9_bowPlace 4 = .ok (.iload_n 1, 1) := by decide +kernel
theorem dX9_bowPlace_5 : decode cX9_bowPlace 5 = .ok (.goto 35, 3) := by decide +kernel
theorem dX9_bowPlace_8 : decode cX9_bowPlace 8 = .ok (.iload_n 0, 1) := by decide +kernel
theorem dX9_bowPlace_9 : decode cX9_bowPlace 9 = .ok (.iconst 1, 1) := by decide +kernel
theorem dX9_bowPlace_10 : decode cX9_bowPlace 10 = .ok (.if_icmp .ne 13, 3) := by decide +kernel
theorem dX9_bowPlace_13 : decode cX9_bowPlace 13 = .ok (.bipush 12, 2) := by decide +kernel
theorem dX9_bowPlace_15 : decode cX9_bowPlace 15 = .ok (.iload_n 1, 1) := by decide +kernel
theorem dX9_bowPlace_16 : decode cX9_bowPlace 16 = .ok (.imul, 1) := by decide +kernel
theorem dX9_bowPlace_17 : decode cX9_bowPlace 17 = .ok (.bipush 11, 2) := by decide +kernel
theorem dX9_bowPlace_19 : decode cX9_bowPlace 19 = .ok (.iadd, 1) := by decide +kernel
theorem dX9_bowPlace_20 : decode cX9_bowPlace 20 = .ok (.goto 20, 3) := by decide +kernel
theorem dX9_bowPlace_23 : decode cX9_bowPlace 23 = .ok (.iload_n 0, 1) := by decide +kernel
theorem dX9_bowPlace_24 : decode cX9_bowPlace 24 = .ok (.iconst 2, 1) := by decide +kernel
theorem dX9_bowPlace_25 : decode cX9_bowPlace 25 = .ok (.if_icmp .ne 11, 3) := by decide +kernel
theorem dX9_bowPlace_28 : decode cX9_bowPlace 28 = .ok (.sipush 132, 3) := by decide +kernel
theorem dX9_bowPlace_31 : decode cX9_bowPlace 31 = .ok (.iload_n 1, 1) := by decide +kernel
theorem dX9_bowPlace_32 : decode cX9_bowPlace 32 = .ok (.iadd, 1) := by decide +kernel
theorem dX9_bowPlace_33 : decode cX9_bowPlace 33 = .ok (.goto 7, 3) := by decide +kernel
theorem dX9_bowPlace_36 : decode cX9_bowPlace 36 = .ok (.bipush 12, 2) := by decide +kernel
theorem dX9_bowPlace_38 : decode cX9_bowPlace 38 = .ok (.iload_n 1, 1) := by decide +kernel
theorem dX9_bowPlace_39 : decode cX9_bowPlace 39 = .ok (.imul, 1) := by decide +kernel
theorem dX9_bowPlace_40 : decode cX9_bowPlace 40 = .ok (.ireturn, 1) := by decide +kernel
set_option maxRecDepth 20000 in
theorem ggX9_isHeld_X9_swingAt : GoodIn wsX9_isHeld wsX9_swingAt := goodIn_r _ [6, 7, 8, 9, 10, 11, 12, 13, 14, 15, 16, 17, 18, 19, 20, 21, 22, 23] (by decide +kernel) (by decide +kernel)
set_option maxRecDepth 20000 in
theorem gX9_isHeld_X9_swingAt : GoodIn wsX9_isHeld (wsV RX9 63 RX9 yX9_swingAt wsX9_swingAt) := goodIn_app (goodIn_of _ (by decide +kernel)) ggX9_isHeld_X9_swingAt
theorem dX9_isHeld_0 : decode cX9_isHeld 0 = .ok (.iconst 0, 1) := by decide +kernel
theorem dX9_isHeld_1 : decode cX9_isHeld 1 = .ok (.istore_n 2, 1) := by decide +kernel
theorem dX9_isHeld_2 : decode cX9_isHeld 2 = .ok (.iconst 0, 1) := by decide +kernel
theorem dX9_isHeld_3 : decode cX9_isHeld 3 = .ok (.istore_n 3, 1) := by decide +kernel
theorem dX9_isHeld_4 : decode cX9_isHeld 4 = .ok (.iload_n 3, 1) := by decide +kernel
theorem dX9_isHeld_5 : decode cX9_isHeld 5 = .ok (.aload_n 0, 1) := by decide +kernel
theorem dX9_isHeld_6 : decode cX9_isHeld 6 = .ok (.getfield 22, 3) := by decide +kernel
theorem dX9_isHeld_9 : decode cX9_isHeld 9 = .ok (.sipush 154, 3) := by decide +kernel
theorem dX9_isHeld_12 : decode cX9_isHeld 12 = .ok (.iaload, 1) := by decide +kernel
theorem dX9_isHeld_13 : decode cX9_isHeld 13 = .ok (.if_icmp .ge 45, 3) := by decide +kernel
theorem dX9_isHeld_16 : decode cX9_isHeld 16 = .ok (.iload_n 2, 1) := by decide +kernel
theorem dX9_isHeld_17 : decode cX9_isHeld 17 = .ok (.ifCond .ne 29, 3) := by decide +kernel
theorem dX9_isHeld_20 : decode cX9_isHeld 20 = .ok (.aload_n 0, 1) := by decide +kernel
theorem dX9_isHeld_21 : decode cX9_isHeld 21 = .ok (.iload_n 1, 1) := by decide +kernel
theorem dX9_isHeld_22 : decode cX9_isHeld 22 = .ok (.aload_n 0, 1) := by decide +kernel
theorem dX9_isHeld_23 : decode cX9_isHeld 23 = .ok (.getfield 22, 3) := by decide +kernel
theorem dX9_isHeld_26 : decode cX9_isHeld 26 = .ok (.sipush 155, 3) := by decide +kernel
theorem dX9_isHeld_29 : decode cX9_isHeld 29 = .ok (.iload_n 3, 1) := by decide +kernel
theorem dX9_isHeld_30 : decode cX9_isHeld 30 = .ok (.iadd, 1) := by decide +kernel
theorem dX9_isHeld_31 : decode cX9_isHeld 31 = .ok (.iaload, 1) := by decide +kernel
theorem dX9_isHeld_32 : decode cX9_isHeld 32 = .ok (.invokevirtual 63, 3) := by decide +kernel
theorem dX9_isHeld_35 : decode cX9_isHeld 35 = .ok (.aload_n 0, 1) := by decide +kernel
theorem dX9_isHeld_36 : decode cX9_isHeld 36 = .ok (.getfield 22, 3) := by decide +kernel
theorem dX9_isHeld_39 : decode cX9_isHeld 39 = .ok (.sipush 144, 3) := by decide +kernel
theorem dX9_isHeld_42 : decode cX9_isHeld 42 = .ok (.iaload, 1) := by decide +kernel
theorem dX9_isHeld_43 : decode cX9_isHeld 43 = .ok (.if_icmp .le 7, 3) := by decide +kernel
theorem dX9_isHeld_46 : decode cX9_isHeld 46 = .ok (.iconst 1, 1) := by decide +kernel
theorem dX9_isHeld_47 : decode cX9_isHeld 47 = .ok (.goto 4, 3) := by decide +kernel
theorem dX9_isHeld_50 : decode cX9_isHeld 50 = .ok (.iconst 0, 1) := by decide +kernel
theorem dX9_isHeld_51 : decode cX9_isHeld 51 = .ok (.istore_n 2, 1) := by decide +kernel
theorem dX9_isHeld_52 : decode cX9_isHeld 52 = .ok (.iinc 3 1, 3) := by decide +kernel
theorem dX9_isHeld_55 : decode cX9_isHeld 55 = .ok (.goto (-51), 3) := by decide +kernel
theorem dX9_isHeld_58 : decode cX9_isHeld 58 = .ok (.iload_n 2, 1) := by decide +kernel
theorem dX9_isHeld_59 : decode cX9_isHeld 59 = .ok (.ireturn, 1) := by decide +kernel
set_option maxRecDepth 20000 in
theorem ggX9_canSound_X9_isHeld : GoodIn wsX9_canSound wsX9_isHeld := goodIn_r _ [6, 1, 7, 8, 9, 5, 10, 11, 12, 13, 14, 15, 16, 17, 18, 19, 20, 21, 22, 23, 24, 25, 26, 27] (by decide +kernel) (by decide +kernel)
set_option maxRecDepth 20000 in
theorem gX9_canSound_X9_isHeld : GoodIn wsX9_canSound (wsV RX9 66 RX9 yX9_isHeld wsX9_isHeld) := goodIn_app (goodIn_of _ (by decide +kernel)) ggX9_canSound_X9_isHeld
set_option maxRecDepth 20000 in
theorem ggX9_canSound_X9_swingAt : GoodIn wsX9_canSound wsX9_swingAt := goodIn_r _ [10, 11, 12, 13, 14, 15, 16, 17, 18, 19, 20, 21, 22, 23, 24, 25, 26, 27] (by decide +kernel) (by decide +kernel)
set_option maxRecDepth 20000 in
theorem gX9_canSound_X9_swingAt : GoodIn wsX9_canSound (wsV RX9 63 RX9 yX9_swingAt wsX9_swingAt) := goodIn_app (goodIn_of _ (by decide +kernel)) ggX9_canSound_X9_swingAt
theorem dX9_canSound_0 : decode cX9_canSound 0 = .ok (.aload_n 0, 1) := by decide +kernel
theorem dX9_canSound_1 : decode cX9_canSound 1 = .ok (.iload_n 1, 1) := by decide +kernel
theorem dX9_canSound_2 : decode cX9_canSound 2 = .ok (.invokevirtual 66, 3) := by decide +kernel
theorem dX9_canSound_5 : decode cX9_canSound 5 = .ok (.ifCond .ne 24, 3) := by decide +kernel
theorem dX9_canSound_8 : decode cX9_canSound 8 = .ok (.aload_n 0, 1) := by decide +kernel
theorem dX9_canSound_9 : decode cX9_canSound 9 = .ok (.iload_n 1, 1) := by decide +kernel
theorem dX9_canSound_10 : decode cX9_canSound 10 = .ok (.iload_n 2, 1) := by decide +kernel
theorem dX9_canSound_11 : decode cX9_canSound 11 = .ok (.invokevirtual 63, 3) := by decide +kernel
theorem dX9_canSound_14 : decode cX9_canSound 14 = .ok (.aload_n 0, 1) := by decide +kernel
theorem dX9_canSound_15 : decode cX9_canSound 15 = .ok (.getfield 22, 3) := by decide +kernel
theorem dX9_canSound_18 : decode cX9_canSound 18 = .ok (.sipush 145, 3) := by decide +kernel
theorem dX9_canSound_21 : decode cX9_canSound 21 = .ok (.iaload, 1) := by decide +kernel
theorem dX9_canSound_22 : decode cX9_canSound 22 = .ok (.if_icmp .lt 7, 3) := by decide +kernel
theorem dX9_canSound_25 : decode cX9_canSound 25 = .ok (.iconst 1, 1) := by decide +kernel
theorem dX9_canSound_26 : decode cX9_canSound 26 = .ok (.goto 4, 3) := by decide +kernel
theorem dX9_canSound_29 : decode cX9_canSound 29 = .ok (.iconst 0, 1) := by decide +kernel
theorem dX9_canSound_30 : decode cX9_canSound 30 = .ok (.ireturn, 1) := by decide +kernel
set_option maxRecDepth 20000 in
theorem ggX9_soundsAt_X9_canSound : GoodIn wsX9_soundsAt wsX9_canSound := goodIn_r _ [5, 6, 7, 8, 9, 4, 10, 11, 12, 13, 14, 15, 16, 17, 18, 19, 20, 21, 22, 23, 24, 25, 26, 27, 28, 29, 30, 31] (by decide +kernel) (by decide +kernel)
set_option maxRecDepth 20000 in
theorem gX9_soundsAt_X9_canSound : GoodIn wsX9_soundsAt (wsV RX9 70 RX9 yX9_canSound wsX9_canSound) := goodIn_app (goodIn_of _ (by decide +kernel)) ggX9_soundsAt_X9_canSound
theorem dX9_soundsAt_0 : decode cX9_soundsAt 0 = .ok (.iconst 0, 1) := by decide +kernel
theorem dX9_soundsAt_1 : decode cX9_soundsAt 1 = .ok (.istore_n 2, 1) := by decide +kernel
theorem dX9_soundsAt_2 : decode cX9_soundsAt 2 = .ok (.iload_n 2, 1) := by decide +kernel
theorem dX9_soundsAt_3 : decode cX9_soundsAt 3 = .ok (.bipush 48, 2) := by decide +kernel
theorem dX9_soundsAt_5 : decode cX9_soundsAt 5 = .ok (.if_icmp .ge 20, 3) := by decide +kernel
theorem dX9_soundsAt_8 : decode cX9_soundsAt 8 = .ok (.aload_n 0, 1) := by decide +kernel
theorem dX9_soundsAt_9 : decode cX9_soundsAt 9 = .ok (.iload_n 2, 1) := by decide +kernel
theorem dX9_soundsAt_10 : decode cX9_soundsAt 10 = .ok (.iload_n 1, 1) := by decide +kernel
theorem dX9_soundsAt_11 : decode cX9_soundsAt 11 = .ok (.invokevirtual 70, 3) := by decide +kernel
theorem dX9_soundsAt_14 : decode cX9_soundsAt 14 = .ok (.ifCond .eq 5, 3) := by decide +kernel
theorem dX9_soundsAt_17 : decode cX9_soundsAt 17 = .ok (.iload_n 2, 1) := by decide +kernel
theorem dX9_soundsAt_18 : decode cX9_soundsAt 18 = .ok (.ireturn, 1) := by decide +kernel
theorem dX9_soundsAt_19 : decode cX9_soundsAt 19 = .ok (.iinc 2 1, 3) := by decide +kernel
theorem dX9_soundsAt_22 : decode cX9_soundsAt 22 = .ok (.goto (-20), 3) := by decide +kernel
theorem dX9_soundsAt_25 : decode cX9_soundsAt 25 = .ok (.bipush (-5), 2) := by decide +kernel
theorem dX9_soundsAt_27 : decode cX9_soundsAt 27 = .ok (.ireturn, 1) := by decide +kernel
set_option maxRecDepth 20000 in
theorem ggX9_isPossible_X9_bowPlace : GoodIn wsX9_isPossible wsX9_bowPlace := goodIn_r _ [4] (by decide +kernel) (by decide +kernel)
set_option maxRecDepth 20000 in
theorem gX9_isPossible_X9_bowPlace : GoodIn wsX9_isPossible (va_wsS RX9 74 yX9_bowPlace wsX9_bowPlace) := goodIn_app (goodIn_of _ (by decide +kernel)) ggX9_isPossible_X9_bowPlace
set_option maxRecDepth 20000 in
theorem ggX9_isPossible_X9_soundsAt : GoodIn wsX9_isPossible wsX9_soundsAt := goodIn_r _ [8, 9, 10, 11, 3, 12, 13, 14, 15, 16, 17, 18, 19, 20, 21, 22, 23, 24, 25, 26, 27, 28, 29, 30, 31, 32, 33, 34, 35, 36, 37, 38] (by decide +kernel) (by decide +kernel)
set_option maxRecDepth 20000 in
theorem gX9_isPossible_X9_soundsAt : GoodIn wsX9_isPossible (wsV RX9 77 RX9 yX9_soundsAt wsX9_soundsAt) := goodIn_app (goodIn_of _ (by decide +kernel)) ggX9_isPossible_X9_soundsAt
theorem dX9_isPossible_0 : decode cX9_isPossible 0 = .ok (.iconst 0, 1) := by decide +kernel
theorem dX9_isPossible_1 : decode cX9_isPossible 1 = .ok (.istore_n 2, 1) := by decide +kernel
theorem dX9_isPossible_2 : decode cX9_isPossible 2 = .ok (.iconst 0, 1) := by decide +kernel
theorem dX9_isPossible_3 : decode cX9_isPossible 3 = .ok (.istore_n 3, 1) := by decide +kernel
theorem dX9_isPossible_4 : decode cX9_isPossible 4 = .ok (.iload_n 3, 1) := by decide +kernel
theorem dX9_isPossible_5 : decode cX9_isPossible 5 = .ok (.bipush 48, 2) := by decide +kernel
theorem dX9_isPossible_7 : decode cX9_isPossible 7 = .ok (.if_icmp .ge 38, 3) := by decide +kernel
theorem dX9_isPossible_10 : decode cX9_isPossible 10 = .ok (.iload_n 2, 1) := by decide +kernel
theorem dX9_isPossible_11 : decode cX9_isPossible 11 = .ok (.ifCond .ne 34, 3) := by decide +kernel
theorem dX9_isPossible_14 : decode cX9_isPossible 14 = .ok (.aload_n 0, 1) := by decide +kernel
theorem dX9_isPossible_15 : decode cX9_isPossible 15 = .ok (.iload_n 3, 1) := by decide +kernel
theorem dX9_isPossible_16 : decode cX9_isPossible 16 = .ok (.bipush 12, 2) := by decide +kernel
theorem dX9_isPossible_18 : decode cX9_isPossible 18 = .ok (.idiv, 1) := by decide +kernel
theorem dX9_isPossible_19 : decode cX9_isPossible 19 = .ok (.iload_n 3, 1) := by decide +kernel
theorem dX9_isPossible_20 : decode cX9_isPossible 20 = .ok (.bipush 12, 2) := by decide +kernel
theorem dX9_isPossible_22 : decode cX9_isPossible 22 = .ok (.irem, 1) := by decide +kernel
theorem dX9_isPossible_23 : decode cX9_isPossible 23 = .ok (.invokestatic 74, 3) := by decide +kernel
theorem dX9_isPossible_26 : decode cX9_isPossible 26 = .ok (.invokevirtual 77, 3) := by decide +kernel
theorem dX9_isPossible_29 : decode cX9_isPossible 29 = .ok (.iload_n 1, 1) := by decide +kernel
theorem dX9_isPossible_30 : decode cX9_isPossible 30 = .ok (.if_icmp .ne 7, 3) := by decide +kernel
theorem dX9_isPossible_33 : decode cX9_isPossible 33 = .ok (.iconst 1, 1) := by decide +kernel
theorem dX9_isPossible_34 : decode cX9_isPossible 34 = .ok (.goto 4, 3) := by decide +kernel
theorem dX9_isPossible_37 : decode cX9_isPossible 37 = .ok (.iconst 0, 1) := by decide +kernel
theorem dX9_isPossible_38 : decode cX9_isPossible 38 = .ok (.istore_n 2, 1) := by decide +kernel
theorem dX9_isPossible_39 : decode cX9_isPossible 39 = .ok (.iinc 3 1, 3) := by decide +kernel
theorem dX9_isPossible_42 : decode cX9_isPossible 42 = .ok (.goto (-38), 3) := by decide +kernel
theorem dX9_isPossible_45 : decode cX9_isPossible 45 = .ok (.iload_n 2, 1) := by decide +kernel
theorem dX9_isPossible_46 : decode cX9_isPossible 46 = .ok (.ireturn, 1) := by decide +kernel
theorem dX9_isEdge_0 : decode cX9_isEdge 0 = .ok (.iload_n 0, 1) := by decide +kernel
theorem dX9_isEdge_1 : decode cX9_isEdge 1 = .ok (.bipush 12, 2) := by decide +kernel
theorem dX9_isEdge_3 : decode cX9_isEdge 3 = .ok (.irem, 1) := by decide +kernel
theorem dX9_isEdge_4 : decode cX9_isEdge 4 = .ok (.istore_n 1, 1) := by decide +kernel
theorem dX9_isEdge_5 : decode cX9_isEdge 5 = .ok (.iload_n 0, 1) := by decide +kernel
theorem dX9_isEdge_6 : decode cX9_isEdge 6 = .ok (.bipush 12, 2) := by decide +kernel
theorem dX9_isEdge_8 : decode cX9_isEdge 8 = .ok (.idiv, 1) := by decide +kernel
theorem dX9_isEdge_9 : decode cX9_isEdge 9 = .ok (.istore_n 2, 1) := by decide +kernel
theorem dX9_isEdge_10 : decode cX9_isEdge 10 = .ok (.iload_n 1, 1) := by decide +kernel
theorem dX9_isEdge_11 : decode cX9_isEdge 11 = .ok (.ifCond .eq 19, 3) := by decide +kernel
theorem dX9_isEdge_14 : decode cX9_isEdge 14 = .ok (.iload_n 1, 1) := by decide +kernel
theorem dX9_isEdge_15 : decode cX9_isEdge 15 = .ok (.bipush 11, 2) := by decide +kernel
theorem dX9_isEdge_17 : decode cX9_isEdge 17 = .ok (.if_icmp .eq 13, 3) := by decide +kernel
theorem dX9_isEdge_20 : decode cX9_isEdge 20 = .ok (.iload_n 2, 1) := by decide +kernel
theorem dX9_isEdge_21 : decode cX9_isEdge 21 = .ok (.ifCond .eq 9, 3) := by decide +kernel
theorem dX9_isEdge_24 : decode cX9_isEdge 24 = .ok (.iload_n 2, 1) := by decide +kernel
theorem dX9_isEdge_25 : decode cX9_isEdge 25 = .ok (.bipush 11, 2) := by decide +kernel
theorem dX9_isEdge_27 : decode cX9_isEdge 27 = .ok (.if_icmp .ne 7, 3) := by decide +kernel
theorem dX9_isEdge_30 : decode cX9_isEdge 30 = .ok (.iconst 1, 1) := by decide +kernel
theorem dX9_isEdge_31 : decode cX9_isEdge 31 = .ok (.goto 4, 3) := by decide +kernel
theorem dX9_isEdge_34 : decode cX9_isEdge 34 = .ok (.iconst 0, 1) := by decide +kernel
theorem dX9_isEdge_35 : decode cX9_isEdge 35 = .ok (.ireturn, 1) := by decide +kernel
set_option maxRecDepth 20000 in
theorem ggX9_calmest_X9_isOn : GoodIn wsX9_calmest wsX9_isOn := goodIn_r _ [4, 5, 6, 3, 7] (by decide +kernel) (by decide +kernel)
set_option maxRecDepth 20000 in
theorem gX9_calmest_X9_isOn : GoodIn wsX9_calmest (va_wsS RX9 80 yX9_isOn wsX9_isOn) := goodIn_app (goodIn_of _ (by decide +kernel)) ggX9_calmest_X9_isOn
set_option maxRecDepth 20000 in
theorem ggX9_calmest_X9_swingAt : GoodIn wsX9_calmest wsX9_swingAt := goodIn_r _ [11, 12, 13, 14, 15, 16, 17, 18, 19, 20, 21, 22, 23, 24, 25, 26, 27, 28] (by decide +kernel) (by decide +kernel)
set_option maxRecDepth 20000 in
theorem gX9_calmest_X9_swingAt : GoodIn wsX9_calmest (wsV RX9 63 RX9 yX9_swingAt wsX9_swingAt) := goodIn_app (goodIn_of _ (by decide +kernel)) ggX9_calmest_X9_swingAt
theorem dX9_calmest_0 : decode cX9_calmest 0 = .ok (.bipush (-5), 2) := by decide +kernel
theorem dX9_calmest_2 : decode cX9_calmest 2 = .ok (.istore_n 3, 1) := by decide +kernel
theorem dX9_calmest_3 : decode cX9_calmest 3 = .ok (.iconst 0, 1) := by decide +kernel
theorem dX9_calmest_4 : decode cX9_calmest 4 = .ok (.istore 4, 2) := by decide +kernel
theorem dX9_calmest_6 : decode cX9_calmest 6 = .ok (.iload 4, 2) := by decide +kernel
theorem dX9_calmest_8 : decode cX9_calmest 8 = .ok (.iconst 4, 1) := by decide +kernel
theorem dX9_calmest_9 : decode cX9_calmest 9 = .ok (.if_icmp .ge 125, 3) := by decide +kernel
theorem dX9_calmest_12 : decode cX9_calmest 12 = .ok (.iload_n 2, 1) := by decide +kernel
theorem dX9_calmest_13 : decode cX9_calmest 13 = .ok (.bipush 12, 2) := by decide +kernel
theorem dX9_calmest_15 : decode cX9_calmest 15 = .ok (.irem, 1) := by decide +kernel
theorem dX9_calmest_16 : decode cX9_calmest 16 = .ok (.iload 4, 2) := by decide +kernel
theorem dX9_calmest_18 : decode cX9_calmest 18 = .ok (.iconst 1, 1) := by decide +kernel
theorem dX9_calmest_19 : decode cX9_calmest 19 = .ok (.if_icmp .ne 7, 3) := by decide +kernel
theorem dX9_calmest_22 : decode cX9_calmest 22 = .ok (.iconst (-1), 1) := by decide +kernel
theorem dX9_calmest_23 : decode cX9_calmest 23 = .ok (.goto 14, 3) := by decide +kernel
theorem dX9_calmest_26 : decode cX9_calmest 26 = .ok (.iload 4, 2) := by decide +kernel
theorem dX9_calmest_28 : decode cX9_calmest 28 = .ok (.iconst 2, 1) := by decide +kernel
theorem dX9_calmest_29 : decode cX9_calmest 29 = .ok (.if_icmp .ne 7, 3) := by decide +kernel
theorem dX9_calmest_32 : decode cX9_calmest 32 = .ok (.iconst 1, 1) := by decide +kernel
theorem dX9_calmest_33 : decode cX9_calmest 33 = .ok (.goto 4, 3) := by decide +kernel
theorem dX9_calmest_36 : decode cX9_calmest 36 = .ok (.iconst 0, 1) := by decide +kernel
theorem dX9_calmest_37 : decode cX9_calmest 37 = .ok (.iadd, 1) := by decide +kernel
theorem dX9_calmest_38 : decode cX9_calmest 38 = .ok (.istore 5, 2) := by decide +kernel
theorem dX9_calmest_40 : decode cX9_calmest 40 = .ok (.iload_n 2, 1) := by decide +kernel
theorem dX9_calmest_41 : decode cX9_calmest 41 = .ok (.bipush 12, 2) := by decide +kernel
theorem dX9_calmest_43 : decode cX9_calmest 43 = .ok (.idiv, 1) := by decide +kernel
theorem dX9_calmest_44 : decode cX9_calmest 44 = .ok (.iload 4, 2) := by decide +kernel
theorem dX9_calmest_46 : decode cX9_calmest 46 = .ok (.ifCond .ne 7, 3) := by decide +kernel
theorem dX9_calmest_49 : decode cX9_calmest 49 = .ok (.iconst (-1), 1) := by decide +kernel
theorem dX9_calmest_50 : decode cX9_calmest 50 = .ok (.goto 14, 3) := by decide +kernel
theorem dX9_calmest_53 : decode cX9_calmest 53 = .ok (.iload 4, 2) := by decide +kernel
theorem dX9_calmest_55 : decode cX9_calmest 55 = .ok (.iconst 3, 1) := by decide +kernel
theorem dX9_calmest_56 : decode cX9_calmest 56 = .ok (.if_icmp .ne 7, 3) := by decide +kernel
theorem dX9_calmest_59 : decode cX9_calmest 59 = .ok (.iconst 1, 1) := by decide +kernel
theorem dX9_calmest_60 : decode cX9_calmest 60 = .ok (.goto 4, 3) := by decide +kernel
theorem dX9_calmest_63 : decode cX9_calmest 63 = .ok (.iconst 0, 1) := by decide +kernel
theorem dX9_calmest_64 : decode cX9_calmest 64 = .ok (.iadd, 1) := by decide +kernel
theorem dX9_calmest_65 : decode cX9_calmest 65 = .ok (.istore 6, 2) := by decide +kernel
theorem dX9_calmest_67 : decode cX9_calmest 67 = .ok (.bipush 12, 2) := by decide +kernel
theorem dX9_calmest_69 : decode cX9_calmest 69 = .ok (.iload 6, 2) := by decide +kernel
theorem dX9_calmest_71 : decode cX9_calmest 71 = .ok (.imul, 1) := by decide +kernel
theorem dX9_calmest_72 : decode cX9_calmest 72 = .ok (.iload 5, 2) := by decide +kernel
theorem dX9_calmest_74 : decode cX9_calmest 74 = .ok (.iadd, 1) := by decide +kernel
theorem dX9_calmest_75 : decode cX9_calmest 75 = .ok (.istore 7, 2) := by decide +kernel
theorem dX9_calmest_77 : decode cX9_calmest 77 = .ok (.iload 5, 2) := by decide +kernel
theorem dX9_calmest_79 : decode cX9_calmest 79 = .ok (.iload 6, 2) := by decide +kernel
theorem dX9_calmest_81 : decode cX9_calmest 81 = .ok (.invokestatic 80, 3) := by decide +kernel
theorem dX9_calmest_84 : decode cX9_calmest 84 = .ok (.ifCond .eq 29, 3) := by decide +kernel
theorem dX9_calmest_87 : decode cX9_calmest 87 = .ok (.iload_n 3, 1) := by decide +kernel
theorem dX9_calmest_88 : decode cX9_calmest 88 = .ok (.bipush (-5), 2) := by decide +kernel
theorem dX9_calmest_90 : decode cX9_calmest 90 = .ok (.if_icmp .eq 19, 3) := by decide +kernel
theorem dX9_calmest_93 : decode cX9_calmest 93 = .ok (.aload_n 0, 1) := by decide +kernel
theorem dX9_calmest_94 : decode cX9_calmest 94 = .ok (.iload_n 1, 1) := by decide +kernel
theorem dX9_calmest_95 : decode cX9_calmest 95 = .ok (.iload 7, 2) := by decide +kernel
theorem dX9_calmest_97 : decode cX9_calmest 97 = .ok (.invokevirtual 63, 3) := by decide +kernel
theorem dX9_calmest_100 : decode cX9_calmest 100 = .ok (.aload_n 0, 1) := by decide +kernel
theorem dX9_calmest_101 : decode cX9_calmest 101 = .ok (.iload_n 1, 1) := by decide +kernel
theorem dX9_calmest_102 : decode cX9_calmest 102 = .ok (.iload_n 3, 1) := by decide +kernel
theorem dX9_calmest_103 : decode cX9_calmest 103 = .ok (.invokevirtual 63, 3) := by decide +kernel
theorem dX9_calmest_106 : decode cX9_calmest 106 = .ok (.if_icmp .ge 7, 3) := by decide +kernel
theorem dX9_calmest_109 : decode cX9_calmest 109 = .ok (.iconst 1, 1) := by decide +kernel
theorem dX9_calmest_110 : decode cX9_calmest 110 = .ok (.goto 4, 3) := by decide +kernel
theorem dX9_calmest_113 : decode cX9_calmest 113 = .ok (.iconst 0, 1) := by decide +kernel
theorem dX9_calmest_114 : decode cX9_calmest 114 = .ok (.istore 8, 2) := by decide +kernel
theorem dX9_calmest_116 : decode cX9_calmest 116 = .ok (.iload 8, 2) := by decide +kernel
theorem dX9_calmest_118 : decode cX9_calmest 118 = .ok (.ifCond .eq 8, 3) := by decide +kernel
theorem dX9_calmest_121 : decode cX9_calmest 121 = .ok (.iload 7, 2) := by decide +kernel
theorem dX9_calmest_123 : decode cX9_calmest 123 = .ok (.goto 4, 3) := by decide +kernel
theorem dX9_calmest_126 : decode cX9_calmest 126 = .ok (.iload_n 3, 1) := by decide +kernel
theorem dX9_calmest_127 : decode cX9_calmest 127 = .ok (.istore_n 3, 1) := by decide +kernel
theorem dX9_calmest_128 : decode cX9_calmest 128 = .ok (.iinc 4 1, 3) := by decide +kernel
theorem dX9_calmest_131 : decode cX9_calmest 131 = .ok (.goto (-125), 3) := by decide +kernel
theorem dX9_calmest_134 : decode cX9_calmest 134 = .ok (.iload_n 3, 1) := by decide +kernel
theorem dX9_calmest_135 : decode cX9_calmest 135 = .ok (.ireturn, 1) := by decide +kernel
set_option maxRecDepth 20000 in
theorem ggX9_stroke_X9_swingAt : GoodIn wsX9_stroke wsX9_swingAt := goodIn_r _ [7, 8, 22, 23, 24, 25, 26, 27, 28, 29, 30, 31, 32, 33, 34, 35, 36, 37] (by decide +kernel) (by decide +kernel)
set_option maxRecDepth 20000 in
theorem gX9_stroke_X9_swingAt : GoodIn wsX9_stroke (wsV RX9 63 RX9 yX9_swingAt wsX9_swingAt) := goodIn_app (goodIn_of _ (by decide +kernel)) ggX9_stroke_X9_swingAt
set_option maxRecDepth 20000 in
theorem ggX9_stroke_X9_isEdge : GoodIn wsX9_stroke wsX9_isEdge := goodIn_r _ [11] (by decide +kernel) (by decide +kernel)
set_option maxRecDepth 20000 in
theorem gX9_stroke_X9_isEdge : GoodIn wsX9_stroke (va_wsS RX9 83 yX9_isEdge wsX9_isEdge) := goodIn_app (goodIn_of _ (by decide +kernel)) ggX9_stroke_X9_isEdge
set_option maxRecDepth 20000 in
theorem ggX9_stroke_X9_calmest : GoodIn wsX9_stroke wsX9_calmest := goodIn_r _ [15, 16, 17, 6, 18, 19, 20, 21, 3, 4, 5, 7, 8, 22, 23, 24, 25, 26, 27, 28, 29, 30, 31, 32, 33, 34, 35, 36, 37] (by decide +kernel) (by decide +kernel)
set_option maxRecDepth 20000 in
theorem gX9_stroke_X9_calmest : GoodIn wsX9_stroke (wsV RX9 86 RX9 yX9_calmest wsX9_calmest) := goodIn_app (goodIn_of _ (by decide +kernel)) ggX9_stroke_X9_calmest
theorem dX9_stroke_0 : decode cX9_stroke 0 = .ok (.iconst 0, 1) := by decide +kernel
theorem dX9_stroke_1 : decode cX9_stroke 1 = .ok (.istore_n 2, 1) := by decide +kernel
theorem dX9_stroke_2 : decode cX9_stroke 2 = .ok (.iload_n 2, 1) := by decide +kernel
theorem dX9_stroke_3 : decode cX9_stroke 3 = .ok (.sipush 144, 3) := by decide +kernel
theorem dX9_stroke_6 : decode cX9_stroke 6 = .ok (.if_icmp .ge 16, 3) := by decide +kernel
theorem dX9_stroke_9 : decode cX9_stroke 9 = .ok (.aload_n 0, 1) := by decide +kernel
theorem dX9_stroke_10 : decode cX9_stroke 10 = .ok (.getfield 34, 3) := by decide +kernel
theorem dX9_stroke_13 : decode cX9_stroke 13 = .ok (.iload_n 2, 1) := by decide +kernel
theorem dX9_stroke_14 : decode cX9_stroke 14 = .ok (.iconst 0, 1) := by decide +kernel
theorem dX9_stroke_15 : decode cX9_stroke 15 = .ok (.iastore, 1) := by decide +kernel
theorem dX9_stroke_16 : decode cX9_stroke 16 = .ok (.iinc 2 1, 3) := by decide +kernel
theorem dX9_stroke_19 : decode cX9_stroke 19 = .ok (.goto (-17), 3) := by decide +kernel
theorem dX9_stroke_22 : decode cX9_stroke 22 = .ok (.iconst 0, 1) := by decide +kernel
theorem dX9_stroke_23 : decode cX9_stroke 23 = .ok (.istore_n 2, 1) := by decide +kernel
theorem dX9_stroke_24 : decode cX9_stroke 24 = .ok (.iload_n 2, 1) := by decide +kernel
theorem dX9_stroke_25 : decode cX9_stroke 25 = .ok (.sipush 144, 3) := by decide +kernel
theorem dX9_stroke_28 : decode cX9_stroke 28 = .ok (.if_icmp .ge 137, 3) := by decide +kernel
theorem dX9_stroke_31 : decode cX9_stroke 31 = .ok (.aload_n 0, 1) := by decide +kernel
theorem dX9_stroke_32 : decode cX9_stroke 32 = .ok (.iload_n 1, 1) := by decide +kernel
theorem dX9_stroke_33 : decode cX9_stroke 33 = .ok (.iload_n 2, 1) := by decide +kernel
theorem dX9_stroke_34 : decode cX9_stroke 34 = .ok (.invokevirtual 63, 3) := by decide +kernel
theorem dX9_stroke_37 : decode cX9_stroke 37 = .ok (.istore_n 3, 1) := by decide +kernel
theorem dX9_stroke_38 : decode cX9_stroke 38 = .ok (.iload_n 3, 1) := by decide +kernel
theorem dX9_stroke_39 : decode cX9_stroke 39 = .ok (.aload_n 0, 1) := by decide +kernel
theorem dX9_stroke_40 : decode cX9_stroke 40 = .ok (.getfield 22, 3) := by decide +kernel
theorem dX9_stroke_43 : decode cX9_stroke 43 = .ok (.sipush 146, 3) := by decide +kernel
theorem dX9_stroke_46 : decode cX9_stroke 46 = .ok (.iaload, 1) := by decide +kernel
theorem dX9_stroke_47 : decode cX9_stroke 47 = .ok (.if_icmp .le 18, 3) := by decide +kernel
theorem dX9_stroke_50 : decode cX9_stroke 50 = .ok (.aload_n 0, 1) := by decide +kernel
theorem dX9_stroke_51 : decode cX9_stroke 51 = .ok (.getfield 22, 3) := by decide +kernel
theorem dX9_stroke_54 : decode cX9_stroke 54 = .ok (.iconst 0, 1) := by decide +kernel
theorem dX9_stroke_55 : decode cX9_stroke 55 = .ok (.iload_n 2, 1) := by decide +kernel
theorem dX9_stroke_56 : decode cX9_stroke 56 = .ok (.iadd, 1) := by decide +kernel
theorem dX9_stroke_57 : decode cX9_stroke 57 = .ok (.iaload, 1) := by decide +kernel
theorem dX9_stroke_58 : decode cX9_stroke 58 = .ok (.iconst 1, 1) := by decide +kernel
theorem dX9_stroke_59 : decode cX9_stroke 59 = .ok (.iadd, 1) := by decide +kernel
theorem dX9_stroke_60 : decode cX9_stroke 60 = .ok (.iconst 2, 1) := by decide +kernel
theorem dX9_stroke_61 : decode cX9_stroke 61 = .ok (.idiv, 1) := by decide +kernel
theorem dX9_stroke_62 : decode cX9_stroke 62 = .ok (.goto 4, 3) := by decide +kernel
theorem dX9_stroke_65 : decode cX9_stroke 65 = .ok (.iconst 0, 1) := by decide +kernel
theorem dX9_stroke_66 : decode cX9_stroke 66 = .ok (.istore 4, 2) := by decide +kernel
theorem dX9_stroke_68 : decode cX9_stroke 68 = .ok (.iload 4, 2) := by decide +kernel
theorem dX9_stroke_70 : decode cX9_stroke 70 = .ok (.ifCond .le 47, 3) := by decide +kernel
theorem dX9_stroke_73 : decode cX9_stroke 73 = .ok (.iload_n 2, 1) := by decide +kernel
theorem dX9_stroke_74 : decode cX9_stroke 74 = .ok (.invokestatic 83, 3) := by decide +kernel
theorem dX9_stroke_77 : decode cX9_stroke 77 = .ok (.ifCond .eq 40, 3) := by decide +kernel
theorem dX9_stroke_80 : decode cX9_stroke 80 = .ok (.iload_n 3, 1) := by decide +kernel
theorem dX9_stroke_81 : decode cX9_stroke 81 = .ok (.aload_n 0, 1) := by decide +kernel
theorem dX9_stroke_82 : decode cX9_stroke 82 = .ok (.getfield 22, 3) := by decide +kernel
theorem dX9_stroke_85 : decode cX9_stroke 85 = .ok (.sipush 147, 3) := by decide +kernel
theorem dX9_stroke_88 : decode cX9_stroke 88 = .ok (.iaload, 1) := by decide +kernel
theorem dX9_stroke_89 : decode cX9_stroke 89 = .ok (.if_icmp .lt 28, 3) := by decide +kernel
theorem dX9_stroke_92 : decode cX9_stroke 92 = .ok (.aload_n 0, 1) := by decide +kernel
theorem dX9_stroke_93 : decode cX9_stroke 93 = .ok (.getfield 34, 3) := by decide +kernel
theorem dX9_stroke_96 : decode cX9_stroke 96 = .ok (.iload_n 2, 1) := by decide +kernel
theorem dX9_stroke_97 : decode cX9_stroke 97 = .ok (.dup2, 1) := by decide +kernel
theorem dX9_stroke_98 : decode cX9_stroke 98 = .ok (.iaload, 1) := by decide +kernel
theorem dX9_stroke_99 : decode cX9_stroke 99 = .ok (.iconst 1, 1) := by decide +kernel
theorem dX9_stroke_100 : decode cX9_stroke 100 = .ok (.isub, 1) := by decide +kernel
theorem dX9_stroke_101 : decode cX9_stroke 101 = .ok (.iastore, 1) := by decide +kernel
theorem dX9_stroke_102 : decode cX9_stroke 102 = .ok (.aload_n 0, 1) := by decide +kernel
theorem dX9_stroke_103 : decode cX9_stroke 103 = .ok (.getfield 22, 3) := by decide +kernel
theorem dX9_stroke_106 : decode cX9_stroke 106 = .ok (.sipush 150, 3) := by decide +kernel
theorem dX9_stroke_109 : decode cX9_stroke 109 = .ok (.dup2, 1) := by decide +kernel
theorem dX9_stroke_110 : decode cX9_stroke 110 = .ok (.iaload, 1) := by decide +kernel
theorem dX9_stroke_111 : decode cX9_stroke 111 = .ok (.iconst 1, 1) := by decide +kernel
theorem dX9_stroke_112 : decode cX9_stroke 112 = .ok (.iadd, 1) := by decide +kernel
theorem dX9_stroke_113 : decode cX9_stroke 113 = .ok (.iastore, 1) := by decide +kernel
theorem dX9_stroke_114 : decode cX9_stroke 114 = .ok (.iinc 4 (-1), 3) := by decide +kernel
theorem dX9_stroke_117 : decode cX9_stroke 117 = .ok (.aload_n 0, 1) := by decide +kernel
theorem dX9_stroke_118 : decode cX9_stroke 118 = .ok (.iload_n 1, 1) := by decide +kernel
theorem dX9_stroke_119 : decode cX9_stroke 119 = .ok (.iload_n 2, 1) := by decide +kernel
theorem dX9_stroke_120 : decode cX9_stroke 120 = .ok (.invokevirtual 86, 3) := by decide +kernel
theorem dX9_stroke_123 : decode cX9_stroke 123 = .ok (.istore 5, 2) := by decide +kernel
theorem dX9_stroke_125 : decode cX9_stroke 125 = .ok (.aload_n 0, 1) := by decide +kernel
theorem dX9_stroke_126 : decode cX9_stroke 126 = .ok (.iload_n 1, 1) := by decide +kernel
theorem dX9_stroke_127 : decode cX9_stroke 127 = .ok (.iload 5, 2) := by decide +kernel
theorem dX9_stroke_129 : decode cX9_stroke 129 = .ok (.invokevirtual 63, 3) := by decide +kernel
theorem dX9_stroke_132 : decode cX9_stroke 132 = .ok (.iload_n 3, 1) := by decide +kernel
theorem dX9_stroke_133 : decode cX9_stroke 133 = .ok (.if_icmp .ge 26, 3) := by decide +kernel
theorem dX9_stroke_136 : decode cX9_stroke 136 = .ok (.aload_n 0, 1) := by decide +kernel
theorem dX9_stroke_137 : decode cX9_stroke 137 = .ok (.getfield 34, 3) := by decide +kernel
theorem dX9_stroke_140 : decode cX9_stroke 140 = .ok (.iload_n 2, 1) := by decide +kernel
theorem dX9_stroke_141 : decode cX9_stroke 141 = .ok (.dup2, 1) := by decide +kernel
theorem dX9_stroke_142 : decode cX9_stroke 142 = .ok (.iaload, 1) := by decide +kernel
theorem dX9_stroke_143 : decode cX9_stroke 143 = .ok (.iload 4, 2) := by decide +kernel
theorem dX9_stroke_145 : decode cX9_stroke 145 = .ok (.isub, 1) := by decide +kernel
theorem dX9_stroke_146 : decode cX9_stroke 146 = .ok (.iastore, 1) := by decide +kernel
theorem dX9_stroke_147 : decode cX9_stroke 147 = .ok (.aload_n 0, 1) := by decide +kernel
theorem dX9_stroke_148 : decode cX9_stroke 148 = .ok (.getfield 34, 3) := by decide +kernel
theorem dX9_stroke_151 : decode cX9_stroke 151 = .ok (.iload 5, 2) := by decide +kernel
theorem dX9_stroke_153 : decode cX9_stroke 153 = .ok (.dup2, 1) := by decide +kernel
theorem dX9_stroke_154 : decode cX9_stroke 154 = .ok (.iaload, 1) := by decide +kernel
theorem dX9_stroke_155 : decode cX9_stroke 155 = .ok (.iload 4, 2) := by decide +kernel
theorem dX9_stroke_157 : decode cX9_stroke 157 = .ok (.iadd, 1) := by decide +kernel
theorem dX9_stroke_158 : decode cX9_stroke 158 = .ok (.iastore, 1) := by decide +kernel
theorem dX9_stroke_159 : decode cX9_stroke 159 = .ok (.iinc 2 1, 3) := by decide +kernel
theorem dX9_stroke_162 : decode cX9_stroke 162 = .ok (.goto (-138), 3) := by decide +kernel
theorem dX9_stroke_165 : decode cX9_stroke 165 = .ok (.iconst 0, 1) := by decide +kernel
theorem dX9_stroke_166 : decode cX9_stroke 166 = .ok (.istore_n 2, 1) := by decide +kernel
theorem dX9_stroke_167 : decode cX9_stroke 167 = .ok (.iload_n 2, 1) := by decide +kernel
theorem dX9_stroke_168 : decode cX9_stroke 168 = .ok (.sipush 144, 3) := by decide +kernel
theorem dX9_stroke_171 : decode cX9_stroke 171 = .ok (.if_icmp .ge 26, 3) := by decide +kernel
theorem dX9_stroke_174 : decode cX9_stroke 174 = .ok (.aload_n 0, 1) := by decide +kernel
theorem dX9_stroke_175 : decode cX9_stroke 175 = .ok (.getfield 22, 3) := by decide +kernel
theorem dX9_stroke_178 : decode cX9_stroke 178 = .ok (.iconst 0, 1) := by decide +kernel
theorem dX9_stroke_179 : decode cX9_stroke 179 = .ok (.iload_n 2, 1) := by decide +kernel
theorem dX9_stroke_180 : decode cX9_stroke 180 = .ok (.iadd, 1) := by decide +kernel
theorem dX9_stroke_181 : decode cX9_stroke 181 = .ok (.dup2, 1) := by decide +kernel
theorem dX9_stroke_182 : decode cX9_stroke 182 = .ok (.iaload, 1) := by decide +kernel
theorem dX9_stroke_183 : decode cX9_stroke 183 = .ok (.aload_n 0, 1) := by decide +kernel
theorem dX9_stroke_184 : decode cX9_stroke 184 = .ok (.getfield 34, 3) := by decide +kernel
theorem dX9_stroke_187 : decode cX9_stroke 187 = .ok (.iload_n 2, 1) := by decide +kernel
theorem dX9_stroke_188 : decode cX9_stroke 188 = .ok (.iaload, 1) := by decide +kernel
theorem dX9_stroke_189 : decode cX9_stroke 189 = .ok (.iadd, 1) := by decide +kernel
theorem dX9_stroke_190 : decode cX9_stroke 190 = .ok (.iastore, 1) := by decide +kernel
theorem dX9_stroke_191 : decode cX9_stroke 191 = .ok (.iinc 2 1, 3) := by decide +kernel
theorem dX9_stroke_194 : decode cX9_stroke 194 = .ok (.goto (-27), 3) := by decide +kernel
theorem dX9_stroke_197 : decode cX9_stroke 197 = .ok (.aload_n 0, 1) := by decide +kernel
theorem dX9_stroke_198 : decode cX9_stroke 198 = .ok (.getfield 22, 3) := by decide +kernel
theorem dX9_stroke_201 : decode cX9_stroke 201 = .ok (.sipush 151, 3) := by decide +kernel
theorem dX9_stroke_204 : decode cX9_stroke 204 = .ok (.dup2, 1) := by decide +kernel
theorem dX9_stroke_205 : decode cX9_stroke 205 = .ok (.iaload, 1) := by decide +kernel
theorem dX9_stroke_206 : decode cX9_stroke 206 = .ok (.iconst 1, 1) := by decide +kernel
theorem dX9_stroke_207 : decode cX9_stroke 207 = .ok (.iadd, 1) := by decide +kernel
theorem dX9_stroke_208 : decode cX9_stroke 208 = .ok (.iastore, 1) := by decide +kernel
theorem dX9_stroke_209 : decode cX9_stroke 209 = .ok (.return_, 1) := by decide +kernel
theorem dX9_allGrains_0 : decode cX9_allGrains 0 = .ok (.iconst 0, 1) := by decide +kernel
theorem dX9_allGrains_1 : decode cX9_allGrains 1 = .ok (.istore_n 1, 1) := by decide +kernel
theorem dX9_allGrains_2 : decode cX9_allGrains 2 = .ok (.iconst 0, 1) := by decide +kernel
theorem dX9_allGrains_3 : decode cX9_allGrains 3 = .ok (.istore_n 2, 1) := by decide +kernel
theorem dX9_allGrains_4 : decode cX9_allGrains 4 = .ok (.iload_n 2, 1) := by decide +kernel
theorem dX9_allGrains_5 : decode cX9_allGrains 5 = .ok (.sipush 144, 3) := by decide +kernel
theorem dX9_allGrains_8 : decode cX9_allGrains 8 = .ok (.if_icmp .ge 20, 3) := by decide +kernel
theorem dX9_allGrains_11 : decode cX9_allGrains 11 = .ok (.iload_n 1, 1) := by decide +kernel
theorem dX9_allGrains_12 : decode cX9_allGrains 12 = .ok (.aload_n 0, 1) := by decide +kernel
theorem dX9_allGrains_13 : decode cX9_allGrains 13 = .ok (.getfield 22, 3) := by decide +kernel
theorem dX9_allGrains_16 : decode cX9_allGrains 16 = .ok (.iconst 0, 1) := by decide +kernel
theorem dX9_allGrains_17 : decode cX9_allGrains 17 = .ok (.iload_n 2, 1) := by decide +kernel
theorem dX9_allGrains_18 : decode cX9_allGrains 18 = .ok (.iadd, 1) := by decide +kernel
theorem dX9_allGrains_19 : decode cX9_allGrains 19 = .ok (.iaload, 1) := by decide +kernel
theorem dX9_allGrains_20 : decode cX9_allGrains 20 = .ok (.iadd, 1) := by decide +kernel
theorem dX9_allGrains_21 : decode cX9_allGrains 21 = .ok (.istore_n 1, 1) := by decide +kernel
theorem dX9_allGrains_22 : decode cX9_allGrains 22 = .ok (.iinc 2 1, 3) := by decide +kernel
theorem dX9_allGrains_25 : decode cX9_allGrains 25 = .ok (.goto (-21), 3) := by decide +kernel
theorem dX9_allGrains_28 : decode cX9_allGrains 28 = .ok (.iload_n 1, 1) := by decide +kernel
theorem dX9_allGrains_29 : decode cX9_allGrains 29 = .ok (.ireturn, 1) := by decide +kernel
set_option maxRecDepth 20000 in
theorem ggX9_strew_X9_isOn : GoodIn wsX9_strew wsX9_isOn := goodIn_r _ [5, 6, 7, 4, 8] (by decide +kernel) (by decide +kernel)
set_option maxRecDepth 20000 in
theorem gX9_strew_X9_isOn : GoodIn wsX9_strew (va_wsS RX9 80 yX9_isOn wsX9_isOn) := goodIn_app (goodIn_of _ (by decide +kernel)) ggX9_strew_X9_isOn
set_option maxRecDepth 20000 in
theorem ggX9_strew_X9_in : GoodIn wsX9_strew wsX9_in := goodIn_r _ [8] (by decide +kernel) (by decide +kernel)
set_option maxRecDepth 20000 in
theorem gX9_strew_X9_in : GoodIn wsX9_strew (va_wsS RX9 55 yX9_in wsX9_in) := goodIn_app (goodIn_of _ (by decide +kernel)) ggX9_strew_X9_in
set_option maxRecDepth 20000 in
theorem ggX9_strew_X9_know : GoodIn wsX9_strew wsX9_know := goodIn_r _ [12, 13, 14, 1, 15, 16, 17, 18, 19, 20, 21, 22, 23, 24, 25, 26, 27, 28, 29, 30] (by decide +kernel) (by decide +kernel)
set_option maxRecDepth 20000 in
theorem gX9_strew_X9_know : GoodIn wsX9_strew (wsV RX9 89 RX9 yX9_know wsX9_know) := goodIn_app (goodIn_of _ (by decide +kernel)) ggX9_strew_X9_know
