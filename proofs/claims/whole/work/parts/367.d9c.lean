theorem dX9_play_0 : decode cX9_play 0 = .ok (.iload_n 1, 1) := by decide +kernel
theorem dX9_play_1 : decode cX9_play 1 = .ok (.iconst 1, 1) := by decide +kernel
theorem dX9_play_2 : decode cX9_play 2 = .ok (.bipush 16, 2) := by decide +kernel
theorem dX9_play_4 : decode cX9_play 4 = .ok (.invokestatic 55, 3) := by decide +kernel
theorem dX9_play_7 : decode cX9_play 7 = .ok (.ifCond .ne 6, 3) := by decide +kernel
theorem dX9_play_10 : decode cX9_play 10 = .ok (.bipush (-2), 2) := by decide +kernel
theorem dX9_play_12 : decode cX9_play 12 = .ok (.ireturn, 1) := by decide +kernel
theorem dX9_play_13 : decode cX9_play 13 = .ok (.aload_n 0, 1) := by decide +kernel
theorem dX9_play_14 : decode cX9_play 14 = .ok (.getfield 22, 3) := by decide +kernel
theorem dX9_play_17 : decode cX9_play 17 = .ok (.sipush 159, 3) := by decide +kernel
theorem dX9_play_20 : decode cX9_play 20 = .ok (.iaload, 1) := by decide +kernel
theorem dX9_play_21 : decode cX9_play 21 = .ok (.ifCond .ne 6, 3) := by decide +kernel
theorem dX9_play_24 : decode cX9_play 24 = .ok (.bipush (-5), 2) := by decide +kernel
theorem dX9_play_26 : decode cX9_play 26 = .ok (.ireturn, 1) := by decide +kernel
theorem dX9_play_27 : decode cX9_play 27 = .ok (.aload_n 0, 1) := by decide +kernel
theorem dX9_play_28 : decode cX9_play 28 = .ok (.invokevirtual 89, 3) := by decide +kernel
theorem dX9_play_31 : decode cX9_play 31 = .ok (.iconst 0, 1) := by decide +kernel
theorem dX9_play_32 : decode cX9_play 32 = .ok (.istore_n 2, 1) := by decide +kernel
theorem dX9_play_33 : decode cX9_play 33 = .ok (.iconst 0, 1) := by decide +kernel
theorem dX9_play_34 : decode cX9_play 34 = .ok (.istore_n 3, 1) := by decide +kernel
theorem dX9_play_35 : decode cX9_play 35 = .ok (.iload_n 3, 1) := by decide +kernel
theorem dX9_play_36 : decode cX9_play 36 = .ok (.iload_n 1, 1) := by decide +kernel
theorem dX9_play_37 : decode cX9_play 37 = .ok (.if_icmp .ge 155, 3) := by decide +kernel
theorem dX9_play_40 : decode cX9_play 40 = .ok (.aload_n 0, 1) := by decide +kernel
theorem dX9_play_41 : decode cX9_play 41 = .ok (.getfield 22, 3) := by decide +kernel
theorem dX9_play_44 : decode cX9_play 44 = .ok (.sipush 159, 3) := by decide +kernel
theorem dX9_play_47 : decode cX9_play 47 = .ok (.iaload, 1) := by decide +kernel
theorem dX9_play_48 : decode cX9_play 48 = .ok (.ifCond .le 144, 3) := by decide +kernel
theorem dX9_play_51 : decode cX9_play 51 = .ok (.aload_n 0, 1) := by decide +kernel
theorem dX9_play_52 : decode cX9_play 52 = .ok (.aload_n 0, 1) := by decide +kernel
theorem dX9_play_53 : decode cX9_play 53 = .ok (.getfield 22, 3) := by decide +kernel
theorem dX9_play_56 : decode cX9_play 56 = .ok (.sipush 160, 3) := by decide +kernel
theorem dX9_play_59 : decode cX9_play 59 = .ok (.iaload, 1) := by decide +kernel
theorem dX9_play_60 : decode cX9_play 60 = .ok (.aload_n 0, 1) := by decide +kernel
theorem dX9_play_61 : decode cX9_play 61 = .ok (.getfield 22, 3) := by decide +kernel
theorem dX9_play_64 : decode cX9_play 64 = .ok (.sipush 161, 3) := by decide +kernel
theorem dX9_play_67 : decode cX9_play 67 = .ok (.iaload, 1) := by decide +kernel
theorem dX9_play_68 : decode cX9_play 68 = .ok (.invokestatic 74, 3) := by decide +kernel
theorem dX9_play_71 : decode cX9_play 71 = .ok (.invokevirtual 77, 3) := by decide +kernel
theorem dX9_play_74 : decode cX9_play 74 = .ok (.istore 4, 2) := by decide +kernel
theorem dX9_play_76 : decode cX9_play 76 = .ok (.aload_n 0, 1) := by decide +kernel
theorem dX9_play_77 : decode cX9_play 77 = .ok (.getfield 22, 3) := by decide +kernel
theorem dX9_play_80 : decode cX9_play 80 = .ok (.sipush 162, 3) := by decide +kernel
theorem dX9_play_83 : decode cX9_play 83 = .ok (.iaload, 1) := by decide +kernel
theorem dX9_play_84 : decode cX9_play 84 = .ok (.istore 5, 2) := by decide +kernel
theorem dX9_play_86 : decode cX9_play 86 = .ok (.aload_n 0, 1) := by decide +kernel
theorem dX9_play_87 : decode cX9_play 87 = .ok (.iconst 0, 1) := by decide +kernel
theorem dX9_play_88 : decode cX9_play 88 = .ok (.invokevirtual 106, 3) := by decide +kernel
theorem dX9_play_91 : decode cX9_play 91 = .ok (.iconst 0, 1) := by decide +kernel
theorem dX9_play_92 : decode cX9_play 92 = .ok (.istore 6, 2) := by decide +kernel
theorem dX9_play_94 : decode cX9_play 94 = .ok (.iload 6, 2) := by decide +kernel
theorem dX9_play_96 : decode cX9_play 96 = .ok (.iload 5, 2) := by decide +kernel
theorem dX9_play_98 : decode cX9_play 98 = .ok (.if_icmp .ge 22, 3) := by decide +kernel
theorem dX9_play_101 : decode cX9_play 101 = .ok (.iload 4, 2) := by decide +kernel
theorem dX9_play_103 : decode cX9_play 103 = .ok (.bipush (-5), 2) := by decide +kernel
theorem dX9_play_105 : decode cX9_play 105 = .ok (.if_icmp .eq 15, 3) := by decide +kernel
theorem dX9_play_108 : decode cX9_play 108 = .ok (.aload_n 0, 1) := by decide +kernel
theorem dX9_play_109 : decode cX9_play 109 = .ok (.iload 4, 2) := by decide +kernel
theorem dX9_play_111 : decode cX9_play 111 = .ok (.invokevirtual 110, 3) := by decide +kernel
theorem dX9_play_114 : decode cX9_play 114 = .ok (.iinc 6 1, 3) := by decide +kernel
theorem dX9_play_117 : decode cX9_play 117 = .ok (.goto (-23), 3) := by decide +kernel
theorem dX9_play_120 : decode cX9_play 120 = .ok (.aload_n 0, 1) := by decide +kernel
theorem dX9_play_121 : decode cX9_play 121 = .ok (.getfield 22, 3) := by decide +kernel
theorem dX9_play_124 : decode cX9_play 124 = .ok (.sipush 152, 3) := by decide +kernel
theorem dX9_play_127 : decode cX9_play 127 = .ok (.dup2, 1) := by decide +kernel
theorem dX9_play_128 : decode cX9_play 128 = .ok (.iaload, 1) := by decide +kernel
theorem dX9_play_129 : decode cX9_play 129 = .ok (.iload 4, 2) := by decide +kernel
theorem dX9_play_131 : decode cX9_play 131 = .ok (.bipush (-5), 2) := by decide +kernel
theorem dX9_play_133 : decode cX9_play 133 = .ok (.if_icmp .ne 7, 3) := by decide +kernel
theorem dX9_play_136 : decode cX9_play 136 = .ok (.iconst 1, 1) := by decide +kernel
theorem dX9_play_137 : decode cX9_play 137 = .ok (.goto 4, 3) := by decide +kernel
theorem dX9_play_140 : decode cX9_play 140 = .ok (.iconst 0, 1) := by decide +kernel
theorem dX9_play_141 : decode cX9_play 141 = .ok (.iadd, 1) := by decide +kernel
theorem dX9_play_142 : decode cX9_play 142 = .ok (.iastore, 1) := by decide +kernel
theorem dX9_play_143 : decode cX9_play 143 = .ok (.aload_n 0, 1) := by decide +kernel
theorem dX9_play_144 : decode cX9_play 144 = .ok (.getfield 22, 3) := by decide +kernel
theorem dX9_play_147 : decode cX9_play 147 = .ok (.sipush 153, 3) := by decide +kernel
theorem dX9_play_150 : decode cX9_play 150 = .ok (.iload 4, 2) := by decide +kernel
theorem dX9_play_152 : decode cX9_play 152 = .ok (.bipush (-5), 2) := by decide +kernel
theorem dX9_play_154 : decode cX9_play 154 = .ok (.if_icmp .ne 14, 3) := by decide +kernel
theorem dX9_play_157 : decode cX9_play 157 = .ok (.aload_n 0, 1) := by decide +kernel
theorem dX9_play_158 : decode cX9_play 158 = .ok (.getfield 22, 3) := by decide +kernel
theorem dX9_play_161 : decode cX9_play 161 = .ok (.sipush 153, 3) := by decide +kernel
theorem dX9_play_164 : decode cX9_play 164 = .ok (.iaload, 1) := by decide +kernel
theorem dX9_play_165 : decode cX9_play 165 = .ok (.goto 5, 3) := by decide +kernel
theorem dX9_play_168 : decode cX9_play 168 = .ok (.iload 4, 2) := by decide +kernel
theorem dX9_play_170 : decode cX9_play 170 = .ok (.iastore, 1) := by decide +kernel
theorem dX9_play_171 : decode cX9_play 171 = .ok (.iload_n 2, 1) := by decide +kernel
theorem dX9_play_172 : decode cX9_play 172 = .ok (.iload 4, 2) := by decide +kernel
theorem dX9_play_174 : decode cX9_play 174 = .ok (.bipush (-5), 2) := by decide +kernel
theorem dX9_play_176 : decode cX9_play 176 = .ok (.if_icmp .ne 7, 3) := by decide +kernel
theorem dX9_play_179 : decode cX9_play 179 = .ok (.iconst 0, 1) := by decide +kernel
theorem dX9_play_180 : decode cX9_play 180 = .ok (.goto 4, 3) := by decide +kernel
theorem dX9_play_183 : decode cX9_play 183 = .ok (.iconst 1, 1) := by decide +kernel
theorem dX9_play_184 : decode cX9_play 184 = .ok (.iadd, 1) := by decide +kernel
theorem dX9_play_185 : decode cX9_play 185 = .ok (.istore_n 2, 1) := by decide +kernel
theorem dX9_play_186 : decode cX9_play 186 = .ok (.iinc 3 1, 3) := by decide +kernel
theorem dX9_play_189 : decode cX9_play 189 = .ok (.goto (-154), 3) := by decide +kernel
theorem dX9_play_192 : decode cX9_play 192 = .ok (.iload_n 2, 1) := by decide +kernel
theorem dX9_play_193 : decode cX9_play 193 = .ok (.ireturn, 1) := by decide +kernel
theorem dX9_type_0 : decode cX9_type 0 = .ok (.aload_n 0, 1) := by decide +kernel
theorem dX9_type_1 : decode cX9_type 1 = .ok (.getfield 113, 3) := by decide +kernel
theorem dX9_type_4 : decode cX9_type 4 = .ok (.bipush 60, 2) := by decide +kernel
theorem dX9_type_6 : decode cX9_type 6 = .ok (.if_icmp .ne 6, 3) := by decide +kernel
theorem dX9_type_9 : decode cX9_type 9 = .ok (.bipush (-3), 2) := by decide +kernel
theorem dX9_type_11 : decode cX9_type 11 = .ok (.ireturn, 1) := by decide +kernel
theorem dX9_type_12 : decode cX9_type 12 = .ok (.aload_n 0, 1) := by decide +kernel
theorem dX9_type_13 : decode cX9_type 13 = .ok (.getfield 31, 3) := by decide +kernel
theorem dX9_type_16 : decode cX9_type 16 = .ok (.aload_n 0, 1) := by decide +kernel
theorem dX9_type_17 : decode cX9_type 17 = .ok (.getfield 113, 3) := by decide +kernel
theorem dX9_type_20 : decode cX9_type 20 = .ok (.iload_n 1, 1) := by decide +kernel
theorem dX9_type_21 : decode cX9_type 21 = .ok (.iastore, 1) := by decide +kernel
theorem dX9_type_22 : decode cX9_type 22 = .ok (.aload_n 0, 1) := by decide +kernel
theorem dX9_type_23 : decode cX9_type 23 = .ok (.dup, 1) := by decide +kernel
theorem dX9_type_24 : decode cX9_type 24 = .ok (.getfield 113, 3) := by decide +kernel
theorem dX9_type_27 : decode cX9_type 27 = .ok (.iconst 1, 1) := by decide +kernel
theorem dX9_type_28 : decode cX9_type 28 = .ok (.iadd, 1) := by decide +kernel
theorem dX9_type_29 : decode cX9_type 29 = .ok (.putfield 113, 3) := by decide +kernel
theorem dX9_type_32 : decode cX9_type 32 = .ok (.aload_n 0, 1) := by decide +kernel
theorem dX9_type_33 : decode cX9_type 33 = .ok (.getfield 113, 3) := by decide +kernel
theorem dX9_type_36 : decode cX9_type 36 = .ok (.ireturn, 1) := by decide +kernel
theorem dX9_clearText_0 : decode cX9_clearText 0 = .ok (.aload_n 0, 1) := by decide +kernel
theorem dX9_clearText_1 : decode cX9_clearText 1 = .ok (.getfield 113, 3) := by decide +kernel
theorem dX9_clearText_4 : decode cX9_clearText 4 = .ok (.istore_n 1, 1) := by decide +kernel
theorem dX9_clearText_5 : decode cX9_clearText 5 = .ok (.aload_n 0, 1) := by decide +kernel
theorem dX9_clearText_6 : decode cX9_clearText 6 = .ok (.iconst 0, 1) := by decide +kernel
theorem dX9_clearText_7 : decode cX9_clearText 7 = .ok (.putfield 113, 3) := by decide +kernel
theorem dX9_clearText_10 : decode cX9_clearText 10 = .ok (.iload_n 1, 1) := by decide +kernel
theorem dX9_clearText_11 : decode cX9_clearText 11 = .ok (.ireturn, 1) := by decide +kernel
set_option maxRecDepth 20000 in
theorem ggX9_sign_X9_in : GoodIn wsX9_sign wsX9_in := goodIn_r _ [8] (by decide +kernel) (by decide +kernel)
set_option maxRecDepth 20000 in
theorem gX9_sign_X9_in : GoodIn wsX9_sign (va_wsS RX9 55 yX9_in wsX9_in) := goodIn_app (goodIn_of _ (by decide +kernel)) ggX9_sign_X9_in
theorem dX9_sign_0 : decode cX9_sign 0 = .ok (.aload_n 0, 1) := by decide +kernel
theorem dX9_sign_1 : decode cX9_sign 1 = .ok (.getfield 116, 3) := by decide +kernel
theorem dX9_sign_4 : decode cX9_sign 4 = .ok (.aload_n 0, 1) := by decide +kernel
theorem dX9_sign_5 : decode cX9_sign 5 = .ok (.getfield 113, 3) := by decide +kernel
theorem dX9_sign_8 : decode cX9_sign 8 = .ok (.if_icmp .ge 15, 3) := by decide +kernel
theorem dX9_sign_11 : decode cX9_sign 11 = .ok (.aload_n 0, 1) := by decide +kernel
theorem dX9_sign_12 : decode cX9_sign 12 = .ok (.getfield 31, 3) := by decide +kernel
theorem dX9_sign_15 : decode cX9_sign 15 = .ok (.aload_n 0, 1) := by decide +kernel
theorem dX9_sign_16 : decode cX9_sign 16 = .ok (.getfield 116, 3) := by decide +kernel
theorem dX9_sign_19 : decode cX9_sign 19 = .ok (.iaload, 1) := by decide +kernel
theorem dX9_sign_20 : decode cX9_sign 20 = .ok (.goto 4, 3) := by decide +kernel
theorem dX9_sign_23 : decode cX9_sign 23 = .ok (.iconst 0, 1) := by decide +kernel
theorem dX9_sign_24 : decode cX9_sign 24 = .ok (.istore_n 3, 1) := by decide +kernel
theorem dX9_sign_25 : decode cX9_sign 25 = .ok (.aload_n 0, 1) := by decide +kernel
theorem dX9_sign_26 : decode cX9_sign 26 = .ok (.aload_n 0, 1) := by decide +kernel
theorem dX9_sign_27 : decode cX9_sign 27 = .ok (.getfield 119, 3) := by decide +kernel
theorem dX9_sign_30 : decode cX9_sign 30 = .ok (.ifCond .ne 12, 3) := by decide +kernel
theorem dX9_sign_33 : decode cX9_sign 33 = .ok (.iload_n 3, 1) := by decide +kernel
theorem dX9_sign_34 : decode cX9_sign 34 = .ok (.iload_n 1, 1) := by decide +kernel
theorem dX9_sign_35 : decode cX9_sign 35 = .ok (.iload_n 2, 1) := by decide +kernel
theorem dX9_sign_36 : decode cX9_sign 36 = .ok (.invokestatic 55, 3) := by decide +kernel
theorem dX9_sign_39 : decode cX9_sign 39 = .ok (.ifCond .ne 7, 3) := by decide +kernel
theorem dX9_sign_42 : decode cX9_sign 42 = .ok (.iconst 1, 1) := by decide +kernel
theorem dX9_sign_43 : decode cX9_sign 43 = .ok (.goto 4, 3) := by decide +kernel
theorem dX9_sign_46 : decode cX9_sign 46 = .ok (.iconst 0, 1) := by decide +kernel
theorem dX9_sign_47 : decode cX9_sign 47 = .ok (.putfield 119, 3) := by decide +kernel
theorem dX9_sign_50 : decode cX9_sign 50 = .ok (.aload_n 0, 1) := by decide +kernel
theorem dX9_sign_51 : decode cX9_sign 51 = .ok (.dup, 1) := by decide +kernel
theorem dX9_sign_52 : decode cX9_sign 52 = .ok (.getfield 116, 3) := by decide +kernel
theorem dX9_sign_55 : decode cX9_sign 55 = .ok (.aload_n 0, 1) := by decide +kernel
theorem dX9_sign_56 : decode cX9_sign 56 = .ok (.getfield 119, 3) := by decide +kernel
theorem dX9_sign_59 : decode cX9_sign 59 = .ok (.ifCond .eq 7, 3) := by decide +kernel
theorem dX9_sign_62 : decode cX9_sign 62 = .ok (.iconst 0, 1) := by decide +kernel
theorem dX9_sign_63 : decode cX9_sign 63 = .ok (.goto 4, 3) := by decide +kernel
theorem dX9_sign_66 : decode cX9_sign 66 = .ok (.iconst 1, 1) := by decide +kernel
theorem dX9_sign_67 : decode cX9_sign 67 = .ok (.iadd, 1) := by decide +kernel
theorem dX9_sign_68 : decode cX9_sign 68 = .ok (.putfield 116, 3) := by decide +kernel
theorem dX9_sign_71 : decode cX9_sign 71 = .ok (.iload_n 3, 1) := by decide +kernel
theorem dX9_sign_72 : decode cX9_sign 72 = .ok (.ireturn, 1) := by decide +kernel
set_option maxRecDepth 20000 in
theorem ggX9_number_X9_sign : GoodIn wsX9_number wsX9_sign := goodIn_r _ [9, 2, 3, 4, 1, 10, 11, 8, 12, 13, 14, 15, 16, 17, 18, 19, 20, 21, 22, 23, 24, 25, 26, 27, 28] (by decide +kernel) (by decide +kernel)
set_option maxRecDepth 20000 in
theorem gX9_number_X9_sign : GoodIn wsX9_number (wsV RX9 123 RX9 yX9_sign wsX9_sign) := goodIn_app (goodIn_of _ (by decide +kernel)) ggX9_number_X9_sign
set_option maxRecDepth 20000 in
theorem ggX9_number_X9_in : GoodIn wsX9_number wsX9_in := goodIn_r _ [12] (by decide +kernel) (by decide +kernel)
set_option maxRecDepth 20000 in
theorem gX9_number_X9_in : GoodIn wsX9_number (va_wsS RX9 55 yX9_in wsX9_in) := goodIn_app (goodIn_of _ (by decide +kernel)) ggX9_number_X9_in
theorem dX9_number_0 : decode cX9_number 0 = .ok (.aload_n 0, 1) := by decide +kernel
theorem dX9_number_1 : decode cX9_number 1 = .ok (.bipush 48, 2) := by decide +kernel
theorem dX9_number_3 : decode cX9_number 3 = .ok (.iload_n 1, 1) := by decide +kernel
theorem dX9_number_4 : decode cX9_number 4 = .ok (.iadd, 1) := by decide +kernel
theorem dX9_number_5 : decode cX9_number 5 = .ok (.bipush 57, 2) := by decide +kernel
theorem dX9_number_7 : decode cX9_number 7 = .ok (.invokevirtual 123, 3) := by decide +kernel
theorem dX9_number_10 : decode cX9_number 10 = .ok (.bipush 48, 2) := by decide +kernel
theorem dX9_number_12 : decode cX9_number 12 = .ok (.isub, 1) := by decide +kernel
theorem dX9_number_13 : decode cX9_number 13 = .ok (.istore_n 3, 1) := by decide +kernel
theorem dX9_number_14 : decode cX9_number 14 = .ok (.aload_n 0, 1) := by decide +kernel
theorem dX9_number_15 : decode cX9_number 15 = .ok (.getfield 119, 3) := by decide +kernel
theorem dX9_number_18 : decode cX9_number 18 = .ok (.ifCond .ne 62, 3) := by decide +kernel
theorem dX9_number_21 : decode cX9_number 21 = .ok (.iload_n 3, 1) := by decide +kernel
theorem dX9_number_22 : decode cX9_number 22 = .ok (.ifCond .le 58, 3) := by decide +kernel
theorem dX9_number_25 : decode cX9_number 25 = .ok (.aload_n 0, 1) := by decide +kernel
theorem dX9_number_26 : decode cX9_number 26 = .ok (.getfield 116, 3) := by decide +kernel
theorem dX9_number_29 : decode cX9_number 29 = .ok (.aload_n 0, 1) := by decide +kernel
theorem dX9_number_30 : decode cX9_number 30 = .ok (.getfield 113, 3) := by decide +kernel
theorem dX9_number_33 : decode cX9_number 33 = .ok (.if_icmp .ge 47, 3) := by decide +kernel
theorem dX9_number_36 : decode cX9_number 36 = .ok (.aload_n 0, 1) := by decide +kernel
theorem dX9_number_37 : decode cX9_number 37 = .ok (.getfield 31, 3) := by decide +kernel
theorem dX9_number_40 : decode cX9_number 40 = .ok (.aload_n 0, 1) := by decide +kernel
theorem dX9_number_41 : decode cX9_number 41 = .ok (.getfield 116, 3) := by decide +kernel
theorem dX9_number_44 : decode cX9_number 44 = .ok (.iaload, 1) := by decide +kernel
theorem dX9_number_45 : decode cX9_number 45 = .ok (.bipush 48, 2) := by decide +kernel
theorem dX9_number_47 : decode cX9_number 47 = .ok (.bipush 57, 2) := by decide +kernel
theorem dX9_number_49 : decode cX9_number 49 = .ok (.invokestatic 55, 3) := by decide +kernel
theorem dX9_number_52 : decode cX9_number 52 = .ok (.ifCond .eq 28, 3) := by decide +kernel
theorem dX9_number_55 : decode cX9_number 55 = .ok (.bipush 10, 2) := by decide +kernel
theorem dX9_number_57 : decode cX9_number 57 = .ok (.iload_n 3, 1) := by decide +kernel
theorem dX9_number_58 : decode cX9_number 58 = .ok (.imul, 1) := by decide +kernel
theorem dX9_number_59 : decode cX9_number 59 = .ok (.aload_n 0, 1) := by decide +kernel
theorem dX9_number_60 : decode cX9_number 60 = .ok (.getfield 31, 3) := by decide +kernel
theorem dX9_number_63 : decode cX9_number 63 = .ok (.aload_n 0, 1) := by decide +kernel
theorem dX9_number_64 : decode cX9_number 64 = .ok (.getfield 116, 3) := by decide +kernel
theorem dX9_number_67 : decode cX9_number 67 = .ok (.iaload, 1) := by decide +kernel
theorem dX9_number_68 : decode cX9_number 68 = .ok (.iadd, 1) := by decide +kernel
theorem dX9_number_69 : decode cX9_number 69 = .ok (.bipush 48, 2) := by decide +kernel
theorem dX9_number_71 : decode cX9_number 71 = .ok (.isub, 1) := by decide +kernel
theorem dX9_number_72 : decode cX9_number 72 = .ok (.iload_n 2, 1) := by decide +kernel
theorem dX9_number_73 : decode cX9_number 73 = .ok (.if_icmp .gt 7, 3) := by decide +kernel
theorem dX9_number_76 : decode cX9_number 76 = .ok (.iconst 1, 1) := by decide +kernel
theorem dX9_number_77 : decode cX9_number 77 = .ok (.goto 4, 3) := by decide +kernel
theorem dX9_number_80 : decode cX9_number 80 = .ok (.iconst 0, 1) := by decide +kernel
theorem dX9_number_81 : decode cX9_number 81 = .ok (.istore 4, 2) := by decide +kernel
theorem dX9_number_83 : decode cX9_number 83 = .ok (.iload 4, 2) := by decide +kernel
theorem dX9_number_85 : decode cX9_number 85 = .ok (.ifCond .eq 22, 3) := by decide +kernel
theorem dX9_number_88 : decode cX9_number 88 = .ok (.bipush 10, 2) := by decide +kernel
theorem dX9_number_90 : decode cX9_number 90 = .ok (.iload_n 3, 1) := by decide +kernel
theorem dX9_number_91 : decode cX9_number 91 = .ok (.imul, 1) := by decide +kernel
theorem dX9_number_92 : decode cX9_number 92 = .ok (.aload_n 0, 1) := by decide +kernel
theorem dX9_number_93 : decode cX9_number 93 = .ok (.bipush 48, 2) := by decide +kernel
theorem dX9_number_95 : decode cX9_number 95 = .ok (.bipush 57, 2) := by decide +kernel
theorem dX9_number_97 : decode cX9_number 97 = .ok (.invokevirtual 123, 3) := by decide +kernel
theorem dX9_number_100 : decode cX9_number 100 = .ok (.iadd, 1) := by decide +kernel
theorem dX9_number_101 : decode cX9_number 101 = .ok (.bipush 48, 2) := by decide +kernel
theorem dX9_number_103 : decode cX9_number 103 = .ok (.isub, 1) := by decide +kernel
theorem dX9_number_104 : decode cX9_number 104 = .ok (.goto 4, 3) := by decide +kernel
theorem dX9_number_107 : decode cX9_number 107 = .ok (.iload_n 3, 1) := by decide +kernel
theorem dX9_number_108 : decode cX9_number 108 = .ok (.ireturn, 1) := by decide +kernel
set_option maxRecDepth 20000 in
theorem ggX9_go_X9_number : GoodIn wsX9_go wsX9_number := goodIn_r _ [9, 2, 1, 3, 4, 10, 11, 12, 8, 13, 14, 15, 16, 22, 23, 24, 25, 26, 27, 28, 29, 30, 31, 32, 33, 34, 35, 36, 37] (by decide +kernel) (by decide +kernel)
set_option maxRecDepth 20000 in
theorem gX9_go_X9_number : GoodIn wsX9_go (wsV RX9 126 RX9 yX9_number wsX9_number) := goodIn_app (goodIn_of _ (by decide +kernel)) ggX9_go_X9_number
set_option maxRecDepth 20000 in
theorem ggX9_go_X9_sign : GoodIn wsX9_go wsX9_sign := goodIn_r _ [13, 1, 3, 4, 2, 14, 15, 8, 16, 22, 23, 24, 25, 26, 27, 28, 29, 30, 31, 32, 33, 34, 35, 36, 37] (by decide +kernel) (by decide +kernel)
set_option maxRecDepth 20000 in
theorem gX9_go_X9_sign : GoodIn wsX9_go (wsV RX9 123 RX9 yX9_sign wsX9_sign) := goodIn_app (goodIn_of _ (by decide +kernel)) ggX9_go_X9_sign
set_option maxRecDepth 20000 in
theorem ggX9_go_X9_waits : GoodIn wsX9_go wsX9_waits := goodIn_r _ [20, 21, 22, 23, 24, 25, 26, 27, 28, 29, 30, 31, 32, 33, 34, 35, 36, 37] (by decide +kernel) (by decide +kernel)
set_option maxRecDepth 20000 in
theorem gX9_go_X9_waits : GoodIn wsX9_go (wsV RX9 102 RX9 yX9_waits wsX9_waits) := goodIn_app (goodIn_of _ (by decide +kernel)) ggX9_go_X9_waits
theorem dX9_go_0 : decode cX9_go 0 = .ok (.aload_n 0, 1) := by decide +kernel
theorem dX9_go_1 : decode cX9_go 1 = .ok (.iconst 0, 1) := by decide +kernel
theorem dX9_go_2 : decode cX9_go 2 = .ok (.putfield 116, 3) := by decide +kernel
theorem dX9_go_5 : decode cX9_go 5 = .ok (.aload_n 0, 1) := by decide +kernel
theorem dX9_go_6 : decode cX9_go 6 = .ok (.iconst 0, 1) := by decide +kernel
theorem dX9_go_7 : decode cX9_go 7 = .ok (.putfield 119, 3) := by decide +kernel
theorem dX9_go_10 : decode cX9_go 10 = .ok (.iconst 0, 1) := by decide +kernel
theorem dX9_go_11 : decode cX9_go 11 = .ok (.istore_n 2, 1) := by decide +kernel
theorem dX9_go_12 : decode cX9_go 12 = .ok (.iconst 1, 1) := by decide +kernel
theorem dX9_go_13 : decode cX9_go 13 = .ok (.istore_n 3, 1) := by decide +kernel
theorem dX9_go_14 : decode cX9_go 14 = .ok (.iload_n 3, 1) := by decide +kernel
theorem dX9_go_15 : decode cX9_go 15 = .ok (.ifCond .eq 279, 3) := by decide +kernel
theorem dX9_go_18 : decode cX9_go 18 = .ok (.aload_n 0, 1) := by decide +kernel
theorem dX9_go_19 : decode cX9_go 19 = .ok (.getfield 116, 3) := by decide +kernel
theorem dX9_go_22 : decode cX9_go 22 = .ok (.aload_n 0, 1) := by decide +kernel
theorem dX9_go_23 : decode cX9_go 23 = .ok (.getfield 113, 3) := by decide +kernel
theorem dX9_go_26 : decode cX9_go 26 = .ok (.if_icmp .ge 15, 3) := by decide +kernel
theorem dX9_go_29 : decode cX9_go 29 = .ok (.aload_n 0, 1) := by decide +kernel
theorem dX9_go_30 : decode cX9_go 30 = .ok (.getfield 31, 3) := by decide +kernel
theorem dX9_go_33 : decode cX9_go 33 = .ok (.aload_n 0, 1) := by decide +kernel
theorem dX9_go_34 : decode cX9_go 34 = .ok (.getfield 116, 3) := by decide +kernel
theorem dX9_go_37 : decode cX9_go 37 = .ok (.iaload, 1) := by decide +kernel
theorem dX9_go_38 : decode cX9_go 38 = .ok (.goto 4, 3) := by decide +kernel
theorem dX9_go_41 : decode cX9_go 41 = .ok (.iconst 0, 1) := by decide +kernel
theorem dX9_go_42 : decode cX9_go 42 = .ok (.istore 4, 2) := by decide +kernel
theorem dX9_go_44 : decode cX9_go 44 = .ok (.iload 4, 2) := by decide +kernel
theorem dX9_go_46 : decode cX9_go 46 = .ok (.bipush 116, 2) := by decide +kernel
theorem dX9_go_48 : decode cX9_go 48 = .ok (.if_icmp .ne 7, 3) := by decide +kernel
theorem dX9_go_51 : decode cX9_go 51 = .ok (.iconst 0, 1) := by decide +kernel
theorem dX9_go_52 : decode cX9_go 52 = .ok (.goto 38, 3) := by decide +kernel
theorem dX9_go_55 : decode cX9_go 55 = .ok (.iload 4, 2) := by decide +kernel
theorem dX9_go_57 : decode cX9_go 57 = .ok (.bipush 114, 2) := by decide +kernel
theorem dX9_go_59 : decode cX9_go 59 = .ok (.if_icmp .ne 7, 3) := by decide +kernel
theorem dX9_go_62 : decode cX9_go 62 = .ok (.iconst 1, 1) := by decide +kernel
theorem dX9_go_63 : decode cX9_go 63 = .ok (.goto 27, 3) := by decide +kernel
theorem dX9_go_66 : decode cX9_go 66 = .ok (.iload 4, 2) := by decide +kernel
theorem dX9_go_68 : decode cX9_go 68 = .ok (.bipush 98, 2) := by decide +kernel
theorem dX9_go_70 : decode cX9_go 70 = .ok (.if_icmp .ne 7, 3) := by decide +kernel
theorem dX9_go_73 : decode cX9_go 73 = .ok (.iconst 2, 1) := by decide +kernel
theorem dX9_go_74 : decode cX9_go 74 = .ok (.goto 16, 3) := by decide +kernel
theorem dX9_go_77 : decode cX9_go 77 = .ok (.iload 4, 2) := by decide +kernel
theorem dX9_go_79 : decode cX9_go 79 = .ok (.bipush 108, 2) := by decide +kernel
theorem dX9_go_81 : decode cX9_go 81 = .ok (.if_icmp .ne 7, 3) := by decide +kernel
theorem dX9_go_84 : decode cX9_go 84 = .ok (.iconst 3, 1) := by decide +kernel
theorem dX9_go_85 : decode cX9_go 85 = .ok (.goto 5, 3) := by decide +kernel
theorem dX9_go_88 : decode cX9_go 88 = .ok (.bipush (-5), 2) := by decide +kernel
theorem dX9_go_90 : decode cX9_go 90 = .ok (.istore 5, 2) := by decide +kernel
theorem dX9_go_92 : decode cX9_go 92 = .ok (.aload_n 0, 1) := by decide +kernel
theorem dX9_go_93 : decode cX9_go 93 = .ok (.aload_n 0, 1) := by decide +kernel
theorem dX9_go_94 : decode cX9_go 94 = .ok (.getfield 119, 3) := by decide +kernel
theorem dX9_go_97 : decode cX9_go 97 = .ok (.ifCond .ne 10, 3) := by decide +kernel
theorem dX9_go_100 : decode cX9_go 100 = .ok (.iload 5, 2) := by decide +kernel
theorem dX9_go_102 : decode cX9_go 102 = .ok (.bipush (-5), 2) := by decide +kernel
theorem dX9_go_104 : decode cX9_go 104 = .ok (.if_icmp .ne 7, 3) := by decide +kernel
theorem dX9_go_107 : decode cX9_go 107 = .ok (.iconst 1, 1) := by decide +kernel
theorem dX9_go_108 : decode cX9_go 108 = .ok (.goto 4, 3) := by decide +kernel
theorem dX9_go_111 : decode cX9_go 111 = .ok (.iconst 0, 1) := by decide +kernel
theorem dX9_go_112 : decode cX9_go 112 = .ok (.putfield 119, 3) := by decide +kernel
theorem dX9_go_115 : decode cX9_go 115 = .ok (.aload_n 0, 1) := by decide +kernel
theorem dX9_go_116 : decode cX9_go 116 = .ok (.dup, 1) := by decide +kernel
theorem dX9_go_117 : decode cX9_go 117 = .ok (.getfield 116, 3) := by decide +kernel
theorem dX9_go_120 : decode cX9_go 120 = .ok (.aload_n 0, 1) := by decide +kernel
theorem dX9_go_121 : decode cX9_go 121 = .ok (.getfield 119, 3) := by decide +kernel
theorem dX9_go_124 : decode cX9_go 124 = .ok (.ifCond .eq 7, 3) := by decide +kernel
theorem dX9_go_127 : decode cX9_go 127 = .ok (.iconst 0, 1) := by decide +kernel
theorem dX9_go_128 : decode cX9_go 128 = .ok (.goto 4, 3) := by decide +kernel
theorem dX9_go_131 : decode cX9_go 131 = .ok (.iconst 1, 1) := by decide +kernel
theorem dX9_go_132 : decode cX9_go 132 = .ok (.iadd, 1) := by decide +kernel
theorem dX9_go_133 : decode cX9_go 133 = .ok (.putfield 116, 3) := by decide +kernel
theorem dX9_go_136 : decode cX9_go 136 = .ok (.aload_n 0, 1) := by decide +kernel
theorem dX9_go_137 : decode cX9_go 137 = .ok (.iconst 0, 1) := by decide +kernel
theorem dX9_go_138 : decode cX9_go 138 = .ok (.bipush 11, 2) := by decide +kernel
theorem dX9_go_140 : decode cX9_go 140 = .ok (.invokevirtual 126, 3) := by decide +kernel
theorem dX9_go_143 : decode cX9_go 143 = .ok (.istore 6, 2) := by decide +kernel
theorem dX9_go_145 : decode cX9_go 145 = .ok (.aload_n 0, 1) := by decide +kernel
theorem dX9_go_146 : decode cX9_go 146 = .ok (.getfield 119, 3) := by decide +kernel
theorem dX9_go_149 : decode cX9_go 149 = .ok (.ifCond .ne 32, 3) := by decide +kernel
theorem dX9_go_152 : decode cX9_go 152 = .ok (.aload_n 0, 1) := by decide +kernel
theorem dX9_go_153 : decode cX9_go 153 = .ok (.getfield 116, 3) := by decide +kernel
theorem dX9_go_156 : decode cX9_go 156 = .ok (.aload_n 0, 1) := by decide +kernel
theorem dX9_go_157 : decode cX9_go 157 = .ok (.getfield 113, 3) := by decide +kernel
theorem dX9_go_160 : decode cX9_go 160 = .ok (.if_icmp .ge 21, 3) := by decide +kernel
theorem dX9_go_163 : decode cX9_go 163 = .ok (.aload_n 0, 1) := by decide +kernel
theorem dX9_go_164 : decode cX9_go 164 = .ok (.getfield 31, 3) := by decide +kernel
theorem dX9_go_167 : decode cX9_go 167 = .ok (.aload_n 0, 1) := by decide +kernel
theorem dX9_go_168 : decode cX9_go 168 = .ok (.getfield 116, 3) := by decide +kernel
theorem dX9_go_171 : decode cX9_go 171 = .ok (.iaload, 1) := by decide +kernel
theorem dX9_go_172 : decode cX9_go 172 = .ok (.bipush 120, 2) := by decide +kernel
theorem dX9_go_174 : decode cX9_go 174 = .ok (.if_icmp .ne 7, 3) := by decide +kernel
theorem dX9_go_177 : decode cX9_go 177 = .ok (.iconst 1, 1) := by decide +kernel
theorem dX9_go_178 : decode cX9_go 178 = .ok (.goto 4, 3) := by decide +kernel
theorem dX9_go_181 : decode cX9_go 181 = .ok (.iconst 0, 1) := by decide +kernel
theorem dX9_go_182 : decode cX9_go 182 = .ok (.istore 7, 2) := by decide +kernel
theorem dX9_go_184 : decode cX9_go 184 = .ok (.iload 7, 2) := by decide +kernel
theorem dX9_go_186 : decode cX9_go 186 = .ok (.ifCond .eq 14, 3) := by decide +kernel
theorem dX9_go_189 : decode cX9_go 189 = .ok (.aload_n 0, 1) := by decide +kernel
theorem dX9_go_190 : decode cX9_go 190 = .ok (.bipush 120, 2) := by decide +kernel
theorem dX9_go_192 : decode cX9_go 192 = .ok (.bipush 120, 2) := by decide +kernel
theorem dX9_go_194 : decode cX9_go 194 = .ok (.invokevirtual 123, 3) := by decide +kernel
theorem dX9_go_197 : decode cX9_go 197 = .ok (.goto 4, 3) := by decide +kernel
theorem dX9_go_200 : decode cX9_go 200 = .ok (.iconst 0, 1) := by decide +kernel
theorem dX9_go_201 : decode cX9_go 201 = .ok (.istore 8, 2) := by decide +kernel
theorem dX9_go_203 : decode cX9_go 203 = .ok (.iload 7, 2) := by decide +kernel
theorem dX9_go_205 : decode cX9_go 205 = .ok (.ifCond .eq 13, 3) := by decide +kernel
theorem dX9_go_208 : decode cX9_go 208 = .ok (.aload_n 0, 1) := by decide +kernel
theorem dX9_go_209 : decode cX9_go 209 = .ok (.iconst 1, 1) := by decide +kernel
theorem dX9_go_210 : decode cX9_go 210 = .ok (.bipush 20, 2) := by decide +kernel
theorem dX9_go_212 : decode cX9_go 212 = .ok (.invokevirtual 126, 3) := by decide +kernel
theorem dX9_go_215 : decode cX9_go 215 = .ok (.goto 4, 3) := by decide +kernel
theorem dX9_go_218 : decode cX9_go 218 = .ok (.iconst 1, 1) := by decide +kernel
theorem dX9_go_219 : decode cX9_go 219 = .ok (.istore 9, 2) := by decide +kernel
theorem dX9_go_221 : decode cX9_go 221 = .ok (.iload_n 1, 1) := by decide +kernel
theorem dX9_go_222 : decode cX9_go 222 = .ok (.ifCond .eq 15, 3) := by decide +kernel
theorem dX9_go_225 : decode cX9_go 225 = .ok (.aload_n 0, 1) := by decide +kernel
theorem dX9_go_226 : decode cX9_go 226 = .ok (.iload 5, 2) := by decide +kernel
theorem dX9_go_228 : decode cX9_go 228 = .ok (.iload 6, 2) := by decide +kernel
theorem dX9_go_230 : decode cX9_go 230 = .ok (.iload 9, 2) := by decide +kernel
theorem dX9_go_232 : decode cX9_go 232 = .ok (.invokevirtual 102, 3) := by decide +kernel
theorem dX9_go_235 : decode cX9_go 235 = .ok (.istore 10, 2) := by decide +kernel
theorem dX9_go_237 : decode cX9_go 237 = .ok (.iinc 2 1, 3) := by decide +kernel
theorem dX9_go_240 : decode cX9_go 240 = .ok (.aload_n 0, 1) := by decide +kernel
theorem dX9_go_241 : decode cX9_go 241 = .ok (.getfield 119, 3) := by decide +kernel
theorem dX9_go_244 : decode cX9_go 244 = .ok (.ifCond .ne 18, 3) := by decide +kernel
theorem dX9_go_247 : decode cX9_go 247 = .ok (.aload_n 0, 1) := by decide +kernel
theorem dX9_go_248 : decode cX9_go 248 = .ok (.getfield 116, 3) := by decide +kernel
theorem dX9_go_251 : decode cX9_go 251 = .ok (.aload_n 0, 1) := by decide +kernel
theorem dX9_go_252 : decode cX9_go 252 = .ok (.getfield 113, 3) := by decide +kernel
theorem dX9_go_255 : decode cX9_go 255 = .ok (.if_icmp .ge 7, 3) := by decide +kernel
theorem dX9_go_258 : decode cX9_go 258 = .ok (.iconst 1, 1) := by decide +kernel
theorem dX9_go_259 : decode cX9_go 259 = .ok (.goto 4, 3) := by decide +kernel
theorem dX9_go_262 : decode cX9_go 262 = .ok (.iconst 0, 1) := by decide +kernel
theorem dX9_go_263 : decode cX9_go 263 = .ok (.istore_n 3, 1) := by decide +kernel
theorem dX9_go_264 : decode cX9_go 264 = .ok (.iload_n 3, 1) := by decide +kernel
theorem dX9_go_265 : decode cX9_go 265 = .ok (.ifCond .eq 26, 3) := by decide +kernel
theorem dX9_go_268 : decode cX9_go 268 = .ok (.aload_n 0, 1) := by decide +kernel
theorem dX9_go_269 : decode cX9_go 269 = .ok (.bipush 44, 2) := by decide +kernel
theorem dX9_go_271 : decode cX9_go 271 = .ok (.bipush 44, 2) := by decide +kernel
theorem dX9_go_273 : decode cX9_go 273 = .ok (.invokevirtual 123, 3) := by decide +kernel
theorem dX9_go_276 : decode cX9_go 276 = .ok (.istore 10, 2) := by decide +kernel
theorem dX9_go_278 : decode cX9_go 278 = .ok (.aload_n 0, 1) := by decide +kernel
theorem dX9_go_279 : decode cX9_go 279 = .ok (.getfield 119, 3) := by decide +kernel
theorem dX9_go_282 : decode cX9_go 282 = .ok (.ifCond .ne 7, 3) := by decide +kernel
theorem dX9_go_285 : decode cX9_go 285 = .ok (.iconst 1, 1) := by decide +kernel
theorem dX9_go_286 : decode cX9_go 286 = .ok (.goto 4, 3) := by decide +kernel
theorem dX9_go_289 : decode cX9_go 289 = .ok (.iconst 0, 1) := by decide +kernel
theorem dX9_go_290 : decode cX9_go 290 = .ok (.istore_n 3, 1) := by decide +kernel
theorem dX9_go_291 : decode cX9_go 291 = .ok (.goto (-277), 3) := by decide +kernel
theorem dX9_go_294 : decode cX9_go 294 = .ok (.iload_n 2, 1) := by decide +kernel
theorem dX9_go_295 : decode cX9_go 295 = .ok (.ireturn, 1) := by decide +kernel
set_option maxRecDepth 20000 in
theorem ggX9_bowAll_X9_go : GoodIn wsX9_bowAll wsX9_go := goodIn_r _ [8, 2, 1, 9, 10, 11, 12, 13, 7, 14, 15, 16, 17, 18, 19, 20, 21, 22, 23, 24, 25, 3, 32, 33, 34, 35, 36, 37, 38, 39, 40, 41, 42, 43, 44, 45, 46, 47] (by decide +kernel) (by decide +kernel)
set_option maxRecDepth 20000 in
theorem gX9_bowAll_X9_go : GoodIn wsX9_bowAll (wsV RX9 129 RX9 yX9_go wsX9_go) := goodIn_app (goodIn_of _ (by decide +kernel)) ggX9_bowAll_X9_go
set_option maxRecDepth 20000 in
theorem ggX9_bowAll_X9_know : GoodIn wsX9_bowAll wsX9_know := goodIn_r _ [29, 30, 31, 3, 32, 33, 34, 35, 36, 37, 38, 39, 40, 41, 42, 43, 44, 45, 46, 47] (by decide +kernel) (by decide +kernel)
set_option maxRecDepth 20000 in
theorem gX9_bowAll_X9_know : GoodIn wsX9_bowAll (wsV RX9 89 RX9 yX9_know wsX9_know) := goodIn_app (goodIn_of _ (by decide +kernel)) ggX9_bowAll_X9_know
theorem dX9_bowAll_0 : decode cX9_bowAll 0 = .ok (.aload_n 0, 1) := by decide +kernel
theorem dX9_bowAll_1 : decode cX9_bowAll 1 = .ok (.iconst 0, 1) := by decide +kernel
theorem dX9_bowAll_2 : decode cX9_bowAll 2 = .ok (.invokevirtual 129, 3) := by decide +kernel
theorem dX9_bowAll_5 : decode cX9_bowAll 5 = .ok (.istore_n 1, 1) := by decide +kernel
theorem dX9_bowAll_6 : decode cX9_bowAll 6 = .ok (.aload_n 0, 1) := by decide +kernel
theorem dX9_bowAll_7 : decode cX9_bowAll 7 = .ok (.getfield 119, 3) := by decide +kernel
theorem dX9_bowAll_10 : decode cX9_bowAll 10 = .ok (.ifCond .eq 11, 3) := by decide +kernel
theorem dX9_bowAll_13 : decode cX9_bowAll 13 = .ok (.bipush (-100), 2) := by decide +kernel
theorem dX9_bowAll_15 : decode cX9_bowAll 15 = .ok (.aload_n 0, 1) := by decide +kernel
theorem dX9_bowAll_16 : decode cX9_bowAll 16 = .ok (.getfield 116, 3) := by decide +kernel
theorem dX9_bowAll_19 : decode cX9_bowAll 19 = .ok (.isub, 1) := by decide +kernel
theorem dX9_bowAll_20 : decode cX9_bowAll 20 = .ok (.ireturn, 1) := by decide +kernel
theorem dX9_bowAll_21 : decode cX9_bowAll 21 = .ok (.aload_n 0, 1) := by decide +kernel
theorem dX9_bowAll_22 : decode cX9_bowAll 22 = .ok (.getfield 22, 3) := by decide +kernel
theorem dX9_bowAll_25 : decode cX9_bowAll 25 = .ok (.sipush 159, 3) := by decide +kernel
theorem dX9_bowAll_28 : decode cX9_bowAll 28 = .ok (.iaload, 1) := by decide +kernel
theorem dX9_bowAll_29 : decode cX9_bowAll 29 = .ok (.iload_n 1, 1) := by decide +kernel
theorem dX9_bowAll_30 : decode cX9_bowAll 30 = .ok (.iadd, 1) := by decide +kernel
theorem dX9_bowAll_31 : decode cX9_bowAll 31 = .ok (.bipush 16, 2) := by decide +kernel
theorem dX9_bowAll_33 : decode cX9_bowAll 33 = .ok (.if_icmp .le 6, 3) := by decide +kernel
theorem dX9_bowAll_36 : decode cX9_bowAll 36 = .ok (.bipush (-3), 2) := by decide +kernel
theorem dX9_bowAll_38 : decode cX9_bowAll 38 = .ok (.ireturn, 1) := by decide +kernel
theorem dX9_bowAll_39 : decode cX9_bowAll 39 = .ok (.aload_n 0, 1) := by decide +kernel
theorem dX9_bowAll_40 : decode cX9_bowAll 40 = .ok (.invokevirtual 89, 3) := by decide +kernel
theorem dX9_bowAll_43 : decode cX9_bowAll 43 = .ok (.aload_n 0, 1) := by decide +kernel
theorem dX9_bowAll_44 : decode cX9_bowAll 44 = .ok (.iconst 1, 1) := by decide +kernel
theorem dX9_bowAll_45 : decode cX9_bowAll 45 = .ok (.invokevirtual 129, 3) := by decide +kernel
theorem dX9_bowAll_48 : decode cX9_bowAll 48 = .ok (.ireturn, 1) := by decide +kernel
theorem dX9_undo_0 : decode cX9_undo 0 = .ok (.aload_n 0, 1) := by decide +kernel
theorem dX9_undo_1 : decode cX9_undo 1 = .ok (.getfield 59, 3) := by decide +kernel
theorem dX9_undo_4 : decode cX9_undo 4 = .ok (.ifCond .ne 6, 3) := by decide +kernel
theorem dX9_undo_7 : decode cX9_undo 7 = .ok (.bipush (-5), 2) := by decide +kernel
theorem dX9_undo_9 : decode cX9_undo 9 = .ok (.ireturn, 1) := by decide +kernel
theorem dX9_undo_10 : decode cX9_undo 10 = .ok (.aload_n 0, 1) := by decide +kernel
theorem dX9_undo_11 : decode cX9_undo 11 = .ok (.dup, 1) := by decide +kernel
theorem dX9_undo_12 : decode cX9_undo 12 = .ok (.getfield 59, 3) := by decide +kernel
theorem dX9_undo_15 : decode cX9_undo 15 = .ok (.iconst 1, 1) := by decide +kernel
theorem dX9_undo_16 : decode cX9_undo 16 = .ok (.isub, 1) := by decide +kernel
theorem dX9_undo_17 : decode cX9_undo 17 = .ok (.putfield 59, 3) := by decide +kernel
theorem dX9_undo_20 : decode cX9_undo 20 = .ok (.iconst 0, 1) := by decide +kernel
theorem dX9_undo_21 : decode cX9_undo 21 = .ok (.istore_n 1, 1) := by decide +kernel
theorem dX9_undo_22 : decode cX9_undo 22 = .ok (.iload_n 1, 1) := by decide +kernel
theorem dX9_undo_23 : decode cX9_undo 23 = .ok (.sipush 208, 3) := by decide +kernel
theorem dX9_undo_26 : decode cX9_undo 26 = .ok (.if_icmp .ge 30, 3) := by decide +kernel
theorem dX9_undo_29 : decode cX9_undo 29 = .ok (.aload_n 0, 1) := by decide +kernel
theorem dX9_undo_30 : decode cX9_undo 30 = .ok (.getfield 22, 3) := by decide +kernel
theorem dX9_undo_33 : decode cX9_undo 33 = .ok (.iload_n 1, 1) := by decide +kernel
theorem dX9_undo_34 : decode cX9_undo 34 = .ok (.aload_n 0, 1) := by decide +kernel
theorem dX9_undo_35 : decode cX9_undo 35 = .ok (.getfield 25, 3) := by decide +kernel
theorem dX9_undo_38 : decode cX9_undo 38 = .ok (.sipush 208, 3) := by decide +kernel
theorem dX9_undo_41 : decode cX9_undo 41 = .ok (.aload_n 0, 1) := by decide +kernel
theorem dX9_undo_42 : decode cX9_undo 42 = .ok (.getfield 59, 3) := by decide +kernel
theorem dX9_undo_45 : decode cX9_undo 45 = .ok (.imul, 1) := by decide +kernel
theorem dX9_undo_46 : decode cX9_undo 46 = .ok (.iload_n 1, 1) := by decide +kernel
theorem dX9_undo_47 : decode cX9_undo 47 = .ok (.iadd, 1) := by decide +kernel
theorem dX9_undo_48 : decode cX9_undo 48 = .ok (.iaload, 1) := by decide +kernel
theorem dX9_undo_49 : decode cX9_undo 49 = .ok (.iastore, 1) := by decide +kernel
theorem dX9_undo_50 : decode cX9_undo 50 = .ok (.iinc 1 1, 3) := by decide +kernel
theorem dX9_undo_53 : decode cX9_undo 53 = .ok (.goto (-31), 3) := by decide +kernel
theorem dX9_undo_56 : decode cX9_undo 56 = .ok (.aload_n 0, 1) := by decide +kernel
theorem dX9_undo_57 : decode cX9_undo 57 = .ok (.getfield 59, 3) := by decide +kernel
theorem dX9_undo_60 : decode cX9_undo 60 = .ok (.ireturn, 1) := by decide +kernel
set_option maxRecDepth 20000 in
theorem ggX9_keep_X9_allGrains : GoodIn wsX9_keep wsX9_allGrains := goodIn_r _ [8, 2, 9, 10, 11, 12, 13, 14, 15, 16, 17, 18, 19, 20, 21, 22, 23, 24] (by decide +kernel) (by decide +kernel)
set_option maxRecDepth 20000 in
theorem gX9_keep_X9_allGrains : GoodIn wsX9_keep (wsV RX9 92 RX9 yX9_allGrains wsX9_allGrains) := goodIn_app (goodIn_of _ (by decide +kernel)) ggX9_keep_X9_allGrains
theorem dX9_keep_0 : decode cX9_keep 0 = .ok (.iconst 0, 1) := by decide +kernel
theorem dX9_keep_1 : decode cX9_keep 1 = .ok (.istore_n 1, 1) := by decide +kernel
theorem dX9_keep_2 : decode cX9_keep 2 = .ok (.iload_n 1, 1) := by decide +kernel
theorem dX9_keep_3 : decode cX9_keep 3 = .ok (.sipush 208, 3) := by decide +kernel
theorem dX9_keep_6 : decode cX9_keep 6 = .ok (.if_icmp .ge 21, 3) := by decide +kernel
theorem dX9_keep_9 : decode cX9_keep 9 = .ok (.aload_n 0, 1) := by decide +kernel
theorem dX9_keep_10 : decode cX9_keep 10 = .ok (.getfield 28, 3) := by decide +kernel
theorem dX9_keep_13 : decode cX9_keep 13 = .ok (.iload_n 1, 1) := by decide +kernel
theorem dX9_keep_14 : decode cX9_keep 14 = .ok (.aload_n 0, 1) := by decide +kernel
theorem dX9_keep_15 : decode cX9_keep 15 = .ok (.getfield 22, 3) := by decide +kernel
theorem dX9_keep_18 : decode cX9_keep 18 = .ok (.iload_n 1, 1) := by decide +kernel
theorem dX9_keep_19 : decode cX9_keep 19 = .ok (.iaload, 1) := by decide +kernel
theorem dX9_keep_20 : decode cX9_keep 20 = .ok (.iastore, 1) := by decide +kernel
theorem dX9_keep_21 : decode cX9_keep 21 = .ok (.iinc 1 1, 3) := by decide +kernel
theorem dX9_keep_24 : decode cX9_keep 24 = .ok (.goto (-22), 3) := by decide +kernel
theorem dX9_keep_27 : decode cX9_keep 27 = .ok (.aload_n 0, 1) := by decide +kernel
theorem dX9_keep_28 : decode cX9_keep 28 = .ok (.iconst 1, 1) := by decide +kernel
theorem dX9_keep_29 : decode cX9_keep 29 = .ok (.putfield 133, 3) := by decide +kernel
theorem dX9_keep_32 : decode cX9_keep 32 = .ok (.aload_n 0, 1) := by decide +kernel
theorem dX9_keep_33 : decode cX9_keep 33 = .ok (.invokevirtual 92, 3) := by decide +kernel
theorem dX9_keep_36 : decode cX9_keep 36 = .ok (.ireturn, 1) := by decide +kernel
set_option maxRecDepth 20000 in
theorem ggX9_restore_X9_know : GoodIn wsX9_restore wsX9_know := goodIn_r _ [8, 9, 10, 2, 15, 16, 17, 18, 19, 20, 21, 22, 23, 24, 25, 26, 27, 28, 29, 30] (by decide +kernel) (by decide +kernel)
set_option maxRecDepth 20000 in
theorem gX9_restore_X9_know : GoodIn wsX9_restore (wsV RX9 89 RX9 yX9_know wsX9_know) := goodIn_app (goodIn_of _ (by decide +kernel)) ggX9_restore_X9_know
set_option maxRecDepth 20000 in
theorem ggX9_restore_X9_allGrains : GoodIn wsX9_restore wsX9_allGrains := goodIn_r _ [14, 2, 15, 16, 17, 18, 19, 20, 21, 22, 23, 24, 25, 26, 27, 28, 29, 30] (by decide +kernel) (by decide +kernel)
set_option maxRecDepth 20000 in
theorem gX9_restore_X9_allGrains : GoodIn wsX9_restore (wsV RX9 92 RX9 yX9_allGrains wsX9_allGrains) := goodIn_app (goodIn_of _ (by decide +kernel)) ggX9_restore_X9_allGrains
theorem dX9_restore_0 : decode cX9_restore 0 = .ok (.aload_n 0, 1) := by decide +kernel
theorem dX9_restore_1 : decode cX9_restore 1 = .ok (.getfield 133, 3) := by decide +kernel
theorem dX9_restore_4 : decode cX9_restore 4 = .ok (.ifCond .ne 6, 3) := by decide +kernel
theorem dX9_restore_7 : decode cX9_restore 7 = .ok (.bipush (-5), 2) := by decide +kernel
theorem dX9_restore_9 : decode cX9_restore 9 = .ok (.ireturn, 1) := by decide +kernel
theorem dX9_restore_10 : decode cX9_restore 10 = .ok (.aload_n 0, 1) := by decide +kernel
theorem dX9_restore_11 : decode cX9_restore 11 = .ok (.invokevirtual 89, 3) := by decide +kernel
theorem dX9_restore_14 : decode cX9_restore 14 = .ok (.iconst 0, 1) := by decide +kernel
theorem dX9_restore_15 : decode cX9_restore 15 = .ok (.istore_n 1, 1) := by decide +kernel
theorem dX9_restore_16 : decode cX9_restore 16 = .ok (.iload_n 1, 1) := by decide +kernel
theorem dX9_restore_17 : decode cX9_restore 17 = .ok (.sipush 208, 3) := by decide +kernel
theorem dX9_restore_20 : decode cX9_restore 20 = .ok (.if_icmp .ge 21, 3) := by decide +kernel
theorem dX9_restore_23 : decode cX9_restore 23 = .ok (.aload_n 0, 1) := by decide +kernel
theorem dX9_restore_24 : decode cX9_restore 24 = .ok (.getfield 22, 3) := by decide +kernel
theorem dX9_restore_27 : decode cX9_restore 27 = .ok (.iload_n 1, 1) := by decide +kernel
theorem dX9_restore_28 : decode cX9_restore 28 = .ok (.aload_n 0, 1) := by decide +kernel
theorem dX9_restore_29 : decode cX9_restore 29 = .ok (.getfield 28, 3) := by decide +kernel
theorem dX9_restore_32 : decode cX9_restore 32 = .ok (.iload_n 1, 1) := by decide +kernel
theorem dX9_restore_33 : decode cX9_restore 33 = .ok (.iaload, 1) := by decide +kernel
theorem dX9_restore_34 : decode cX9_restore 34 = .ok (.iastore, 1) := by decide +kernel
theorem dX9_restore_35 : decode cX9_restore 35 = .ok (.iinc 1 1, 3) := by decide +kernel
theorem dX9_restore_38 : decode cX9_restore 38 = .ok (.goto (-22), 3) := by decide +kernel
theorem dX9_restore_41 : decode cX9_restore 41 = .ok (.aload_n 0, 1) := by decide +kernel
theorem dX9_restore_42 : decode cX9_restore 42 = .ok (.invokevirtual 92, 3) := by decide +kernel
theorem dX9_restore_45 : decode cX9_restore 45 = .ok (.ireturn, 1) := by decide +kernel
set_option maxRecDepth 20000 in
theorem ggX9_isStill_X9_swingAt : GoodIn wsX9_isStill wsX9_swingAt := goodIn_r _ [6, 7, 8, 9, 10, 11, 12, 13, 14, 15, 16, 17, 18, 19, 20, 21, 22, 23] (by decide +kernel) (by decide +kernel)
set_option maxRecDepth 20000 in
theorem gX9_isStill_X9_swingAt : GoodIn wsX9_isStill (wsV RX9 63 RX9 yX9_swingAt wsX9_swingAt) := goodIn_app (goodIn_of _ (by decide +kernel)) ggX9_isStill_X9_swingAt
theorem dX9_isStill_0 : decode cX9_isStill 0 = .ok (.aload_n 0, 1) := by decide +kernel
theorem dX9_isStill_1 : decode cX9_isStill 1 = .ok (.iload_n 1, 1) := by decide +kernel
theorem dX9_isStill_2 : decode cX9_isStill 2 = .ok (.iload_n 2, 1) := by decide +kernel
theorem dX9_isStill_3 : decode cX9_isStill 3 = .ok (.invokevirtual 63, 3) := by decide +kernel
theorem dX9_isStill_6 : decode cX9_isStill 6 = .ok (.aload_n 0, 1) := by decide +kernel
theorem dX9_isStill_7 : decode cX9_isStill 7 = .ok (.getfield 22, 3) := by decide +kernel
theorem dX9_isStill_10 : decode cX9_isStill 10 = .ok (.sipush 146, 3) := by decide +kernel
theorem dX9_isStill_13 : decode cX9_isStill 13 = .ok (.iaload, 1) := by decide +kernel
theorem dX9_isStill_14 : decode cX9_isStill 14 = .ok (.if_icmp .gt 7, 3) := by decide +kernel
theorem dX9_isStill_17 : decode cX9_isStill 17 = .ok (.iconst 1, 1) := by decide +kernel
theorem dX9_isStill_18 : decode cX9_isStill 18 = .ok (.goto 4, 3) := by decide +kernel
theorem dX9_isStill_21 : decode cX9_isStill 21 = .ok (.iconst 0, 1) := by decide +kernel
theorem dX9_isStill_22 : decode cX9_isStill 22 = .ok (.ireturn, 1) := by decide +kernel
set_option maxRecDepth 20000 in
theorem ggX9_place_X9_isOn : GoodIn wsX9_place wsX9_isOn := goodIn_r _ [5, 6, 7, 4, 8] (by decide +kernel) (by decide +kernel)
set_option maxRecDepth 20000 in
theorem gX9_place_X9_isOn : GoodIn wsX9_place (va_wsS RX9 80 yX9_isOn wsX9_isOn) := goodIn_app (goodIn_of _ (by decide +kernel)) ggX9_place_X9_isOn
set_option maxRecDepth 20000 in
theorem ggX9_place_X9_swingAt : GoodIn wsX9_place wsX9_swingAt := goodIn_r _ [12, 13, 22, 23, 24, 25, 26, 27, 28, 29, 30, 31, 32, 33, 34, 35, 36, 37] (by decide +kernel) (by decide +kernel)
set_option maxRecDepth 20000 in
theorem gX9_place_X9_swingAt : GoodIn wsX9_place (wsV RX9 63 RX9 yX9_swingAt wsX9_swingAt) := goodIn_app (goodIn_of _ (by decide +kernel)) ggX9_place_X9_swingAt
set_option maxRecDepth 20000 in
theorem ggX9_place_X9_isStill : GoodIn wsX9_place wsX9_isStill := goodIn_r _ [17, 1, 9, 10, 11, 4, 12, 13, 22, 23, 24, 25, 26, 27, 28, 29, 30, 31, 32, 33, 34, 35, 36, 37] (by decide +kernel) (by decide +kernel)
set_option maxRecDepth 20000 in
theorem gX9_place_X9_isStill : GoodIn wsX9_place (wsV RX9 136 RX9 yX9_isStill wsX9_isStill) := goodIn_app (goodIn_of _ (by decide +kernel)) ggX9_place_X9_isStill
set_option maxRecDepth 20000 in
theorem ggX9_place_X9_clampOn : GoodIn wsX9_place wsX9_clampOn := goodIn_r _ [21, 1, 22, 23, 24, 25, 26, 27, 28, 29, 30, 31, 32, 33, 34, 35, 36, 37] (by decide +kernel) (by decide +kernel)
set_option maxRecDepth 20000 in
theorem gX9_place_X9_clampOn : GoodIn wsX9_place (wsV RX9 96 RX9 yX9_clampOn wsX9_clampOn) := goodIn_app (goodIn_of _ (by decide +kernel)) ggX9_place_X9_clampOn
theorem dX9_place_0 : decode cX9_place 0 = .ok (.iload_n 1, 1) := by decide +kernel
theorem dX9_place_1 : decode cX9_place 1 = .ok (.iload_n 2, 1) := by decide +kernel
theorem dX9_place_2 : decode cX9_place 2 = .ok (.invokestatic 80, 3) := by decide +kernel
theorem dX9_place_5 : decode cX9_place 5 = .ok (.ifCond .ne 5, 3) := by decide +kernel
theorem dX9_place_8 : decode cX9_place 8 = .ok (.iconst (-1), 1) := by decide +kernel
theorem dX9_place_9 : decode cX9_place 9 = .ok (.ireturn, 1) := by decide +kernel
theorem dX9_place_10 : decode cX9_place 10 = .ok (.bipush 12, 2) := by decide +kernel
theorem dX9_place_12 : decode cX9_place 12 = .ok (.iload_n 2, 1) := by decide +kernel
theorem dX9_place_13 : decode cX9_place 13 = .ok (.imul, 1) := by decide +kernel
theorem dX9_place_14 : decode cX9_place 14 = .ok (.iload_n 1, 1) := by decide +kernel
theorem dX9_place_15 : decode cX9_place 15 = .ok (.iadd, 1) := by decide +kernel
theorem dX9_place_16 : decode cX9_place 16 = .ok (.istore 4, 2) := by decide +kernel
theorem dX9_place_18 : decode cX9_place 18 = .ok (.iload_n 3, 1) := by decide +kernel
theorem dX9_place_19 : decode cX9_place 19 = .ok (.tableswitch 120 0 3 #[29, 39, 72, 113], 29) := by decide +kernel
theorem dX9_place_48 : decode cX9_place 48 = .ok (.aload_n 0, 1) := by decide +kernel
theorem dX9_place_49 : decode cX9_place 49 = .ok (.getfield 22, 3) := by decide +kernel
theorem dX9_place_52 : decode cX9_place 52 = .ok (.iconst 0, 1) := by decide +kernel
theorem dX9_place_53 : decode cX9_place 53 = .ok (.iload 4, 2) := by decide +kernel
theorem dX9_place_55 : decode cX9_place 55 = .ok (.iadd, 1) := by decide +kernel
theorem dX9_place_56 : decode cX9_place 56 = .ok (.iaload, 1) := by decide +kernel
theorem dX9_place_57 : decode cX9_place 57 = .ok (.ireturn, 1) := by decide +kernel
theorem dX9_place_58 : decode cX9_place 58 = .ok (.aload_n 0, 1) := by decide +kernel
theorem dX9_place_59 : decode cX9_place 59 = .ok (.getfield 22, 3) := by decide +kernel
theorem dX9_place_62 : decode cX9_place 62 = .ok (.sipush 153, 3) := by decide +kernel
theorem dX9_place_65 : decode cX9_place 65 = .ok (.iaload, 1) := by decide +kernel
theorem dX9_place_66 : decode cX9_place 66 = .ok (.bipush (-5), 2) := by decide +kernel
theorem dX9_place_68 : decode cX9_place 68 = .ok (.if_icmp .ne 8, 3) := by decide +kernel
theorem dX9_place_71 : decode cX9_place 71 = .ok (.bipush (-5), 2) := by decide +kernel
theorem dX9_place_73 : decode cX9_place 73 = .ok (.goto 17, 3) := by decide +kernel
theorem dX9_place_76 : decode cX9_place 76 = .ok (.aload_n 0, 1) := by decide +kernel
theorem dX9_place_77 : decode cX9_place 77 = .ok (.aload_n 0, 1) := by decide +kernel
theorem dX9_place_78 : decode cX9_place 78 = .ok (.getfield 22, 3) := by decide +kernel
theorem dX9_place_81 : decode cX9_place 81 = .ok (.sipush 153, 3) := by decide +kernel
theorem dX9_place_84 : decode cX9_place 84 = .ok (.iaload, 1) := by decide +kernel
theorem dX9_place_85 : decode cX9_place 85 = .ok (.iload 4, 2) := by decide +kernel
theorem dX9_place_87 : decode cX9_place 87 = .ok (.invokevirtual 63, 3) := by decide +kernel
theorem dX9_place_90 : decode cX9_place 90 = .ok (.ireturn, 1) := by decide +kernel
theorem dX9_place_91 : decode cX9_place 91 = .ok (.aload_n 0, 1) := by decide +kernel
theorem dX9_place_92 : decode cX9_place 92 = .ok (.getfield 22, 3) := by decide +kernel
theorem dX9_place_95 : decode cX9_place 95 = .ok (.sipush 153, 3) := by decide +kernel
theorem dX9_place_98 : decode cX9_place 98 = .ok (.iaload, 1) := by decide +kernel
theorem dX9_place_99 : decode cX9_place 99 = .ok (.bipush (-5), 2) := by decide +kernel
theorem dX9_place_101 : decode cX9_place 101 = .ok (.if_icmp .ne 8, 3) := by decide +kernel
theorem dX9_place_104 : decode cX9_place 104 = .ok (.bipush (-5), 2) := by decide +kernel
theorem dX9_place_106 : decode cX9_place 106 = .ok (.goto 25, 3) := by decide +kernel
theorem dX9_place_109 : decode cX9_place 109 = .ok (.aload_n 0, 1) := by decide +kernel
theorem dX9_place_110 : decode cX9_place 110 = .ok (.aload_n 0, 1) := by decide +kernel
theorem dX9_place_111 : decode cX9_place 111 = .ok (.getfield 22, 3) := by decide +kernel
theorem dX9_place_114 : decode cX9_place 114 = .ok (.sipush 153, 3) := by decide +kernel
theorem dX9_place_117 : decode cX9_place 117 = .ok (.iaload, 1) := by decide +kernel
theorem dX9_place_118 : decode cX9_place 118 = .ok (.iload 4, 2) := by decide +kernel
theorem dX9_place_120 : decode cX9_place 120 = .ok (.invokevirtual 136, 3) := by decide +kernel
theorem dX9_place_123 : decode cX9_place 123 = .ok (.ifCond .eq 7, 3) := by decide +kernel
theorem dX9_place_126 : decode cX9_place 126 = .ok (.iconst 1, 1) := by decide +kernel
theorem dX9_place_127 : decode cX9_place 127 = .ok (.goto 4, 3) := by decide +kernel
theorem dX9_place_130 : decode cX9_place 130 = .ok (.iconst 0, 1) := by decide +kernel
theorem dX9_place_131 : decode cX9_place 131 = .ok (.ireturn, 1) := by decide +kernel
theorem dX9_place_132 : decode cX9_place 132 = .ok (.aload_n 0, 1) := by decide +kernel
theorem dX9_place_133 : decode cX9_place 133 = .ok (.iload 4, 2) := by decide +kernel
theorem dX9_place_135 : decode cX9_place 135 = .ok (.invokevirtual 96, 3) := by decide +kernel
theorem dX9_place_138 : decode cX9_place 138 = .ok (.ireturn, 1) := by decide +kernel
theorem dX9_place_139 : decode cX9_place 139 = .ok (.bipush (-2), 2) := by decide +kernel
theorem dX9_place_141 : decode cX9_place 141 = .ok (.ireturn, 1) := by decide +kernel
set_option maxRecDepth 20000 in
theorem ggX9_still_X9_isStill : GoodIn wsX9_still wsX9_isStill := goodIn_r _ [6, 1, 7, 8, 9, 5, 10, 11, 12, 13, 14, 15, 16, 17, 18, 19, 20, 21, 22, 23, 24, 25, 26, 27] (by decide +kernel) (by decide +kernel)
set_option maxRecDepth 20000 in
theorem gX9_still_X9_isStill : GoodIn wsX9_still (wsV RX9 136 RX9 yX9_isStill wsX9_isStill) := goodIn_app (goodIn_of _ (by decide +kernel)) ggX9_still_X9_isStill
theorem dX9_still_0 : decode cX9_still 0 = .ok (.iconst 0, 1) := by decide +kernel
theorem dX9_still_1 : decode cX9_still 1 = .ok (.istore_n 3, 1) := by decide +kernel
theorem dX9_still_2 : decode cX9_still 2 = .ok (.iconst 0, 1) := by decide +kernel
theorem dX9_still_3 : decode cX9_still 3 = .ok (.istore 4, 2) := by decide +kernel
theorem dX9_still_5 : decode cX9_still 5 = .ok (.iload 4, 2) := by decide +kernel
theorem dX9_still_7 : decode cX9_still 7 = .ok (.sipush 144, 3) := by decide +kernel
theorem dX9_still_10 : decode cX9_still 10 = .ok (.if_icmp .ge 44, 3) := by decide +kernel
theorem dX9_still_13 : decode cX9_still 13 = .ok (.iload_n 3, 1) := by decide +kernel
theorem dX9_still_14 : decode cX9_still 14 = .ok (.aload_n 0, 1) := by decide +kernel
theorem dX9_still_15 : decode cX9_still 15 = .ok (.iload_n 1, 1) := by decide +kernel
theorem dX9_still_16 : decode cX9_still 16 = .ok (.iload 4, 2) := by decide +kernel
theorem dX9_still_18 : decode cX9_still 18 = .ok (.invokevirtual 136, 3) := by decide +kernel
theorem dX9_still_21 : decode cX9_still 21 = .ok (.ifCond .ne 7, 3) := by decide +kernel
theorem dX9_still_24 : decode cX9_still 24 = .ok (.iconst 0, 1) := by decide +kernel
theorem dX9_still_25 : decode cX9_still 25 = .ok (.goto 21, 3) := by decide +kernel
theorem dX9_still_28 : decode cX9_still 28 = .ok (.iload_n 2, 1) := by decide +kernel
theorem dX9_still_29 : decode cX9_still 29 = .ok (.iconst 4, 1) := by decide +kernel
theorem dX9_still_30 : decode cX9_still 30 = .ok (.if_icmp .ne 7, 3) := by decide +kernel
theorem dX9_still_33 : decode cX9_still 33 = .ok (.iconst 1, 1) := by decide +kernel
theorem dX9_still_34 : decode cX9_still 34 = .ok (.goto 12, 3) := by decide +kernel
theorem dX9_still_37 : decode cX9_still 37 = .ok (.aload_n 0, 1) := by decide +kernel
theorem dX9_still_38 : decode cX9_still 38 = .ok (.getfield 22, 3) := by decide +kernel
theorem dX9_still_41 : decode cX9_still 41 = .ok (.iconst 0, 1) := by decide +kernel
theorem dX9_still_42 : decode cX9_still 42 = .ok (.iload 4, 2) := by decide +kernel
theorem dX9_still_44 : decode cX9_still 44 = .ok (.iadd, 1) := by decide +kernel
theorem dX9_still_45 : decode cX9_still 45 = .ok (.iaload, 1) := by decide +kernel
theorem dX9_still_46 : decode cX9_still 46 = .ok (.iadd, 1) := by decide +kernel
theorem dX9_still_47 : decode cX9_still 47 = .ok (.istore_n 3, 1) := by decide +kernel
theorem dX9_still_48 : decode cX9_still 48 = .ok (.iinc 4 1, 3) := by decide +kernel
theorem dX9_still_51 : decode cX9_still 51 = .ok (.goto (-46), 3) := by decide +kernel
theorem dX9_still_54 : decode cX9_still 54 = .ok (.iload_n 3, 1) := by decide +kernel
theorem dX9_still_55 : decode cX9_still 55 = .ok (.ireturn, 1) := by decide +kernel
set_option maxRecDepth 20000 in
theorem ggX9_lines_X9_isStill : GoodIn wsX9_lines wsX9_isStill := goodIn_r _ [6, 7, 8, 9, 10, 5, 11, 12, 24, 25, 26, 27, 28, 29, 30, 31, 32, 33, 34, 35, 36, 37, 38, 39] (by decide +kernel) (by decide +kernel)
set_option maxRecDepth 20000 in
theorem gX9_lines_X9_isStill : GoodIn wsX9_lines (wsV RX9 136 RX9 yX9_isStill wsX9_isStill) := goodIn_app (goodIn_of _ (by decide +kernel)) ggX9_lines_X9_isStill
set_option maxRecDepth 20000 in
theorem ggX9_lines_X9_meet : GoodIn wsX9_lines wsX9_meet := goodIn_r _ [16, 1, 17, 18, 19, 5, 20, 21, 22, 23, 24, 25, 26, 27, 28, 29, 30, 31, 32, 33, 34, 35, 36, 37, 38, 39] (by decide +kernel) (by decide +kernel)
set_option maxRecDepth 20000 in
theorem gX9_lines_X9_meet : GoodIn wsX9_lines (wsV RX9 139 RX9 yX9_meet wsX9_meet) := goodIn_app (goodIn_of _ (by decide +kernel)) ggX9_lines_X9_meet
theorem dX9_lines_0 : decode cX9_lines 0 = .ok (.iconst 0, 1) := by decide +kernel
theorem dX9_lines_1 : decode cX9_lines 1 = .ok (.istore_n 2, 1) := by decide +kernel
theorem dX9_lines_2 : decode cX9_lines 2 = .ok (.iconst 0, 1) := by decide +kernel
theorem dX9_lines_3 : decode cX9_lines 3 = .ok (.istore_n 3, 1) := by decide +kernel
theorem dX9_lines_4 : decode cX9_lines 4 = .ok (.iload_n 3, 1) := by decide +kernel
theorem dX9_lines_5 : decode cX9_lines 5 = .ok (.sipush 144, 3) := by decide +kernel
theorem dX9_lines_8 : decode cX9_lines 8 = .ok (.if_icmp .ge 29, 3) := by decide +kernel
theorem dX9_lines_11 : decode cX9_lines 11 = .ok (.aload_n 0, 1) := by decide +kernel
theorem dX9_lines_12 : decode cX9_lines 12 = .ok (.getfield 37, 3) := by decide +kernel
theorem dX9_lines_15 : decode cX9_lines 15 = .ok (.iload_n 3, 1) := by decide +kernel
theorem dX9_lines_16 : decode cX9_lines 16 = .ok (.aload_n 0, 1) := by decide +kernel
theorem dX9_lines_17 : decode cX9_lines 17 = .ok (.iload_n 1, 1) := by decide +kernel
theorem dX9_lines_18 : decode cX9_lines 18 = .ok (.iload_n 3, 1) := by decide +kernel
theorem dX9_lines_19 : decode cX9_lines 19 = .ok (.invokevirtual 136, 3) := by decide +kernel
theorem dX9_lines_22 : decode cX9_lines 22 = .ok (.ifCond .ne 7, 3) := by decide +kernel
theorem dX9_lines_25 : decode cX9_lines 25 = .ok (.iconst 1, 1) := by decide +kernel
theorem dX9_lines_26 : decode cX9_lines 26 = .ok (.goto 4, 3) := by decide +kernel
theorem dX9_lines_29 : decode cX9_lines 29 = .ok (.iconst 0, 1) := by decide +kernel
theorem dX9_lines_30 : decode cX9_lines 30 = .ok (.bastore, 1) := by decide +kernel
theorem dX9_lines_31 : decode cX9_lines 31 = .ok (.iinc 3 1, 3) := by decide +kernel
theorem dX9_lines_34 : decode cX9_lines 34 = .ok (.goto (-30), 3) := by decide +kernel
theorem dX9_lines_37 : decode cX9_lines 37 = .ok (.iconst 0, 1) := by decide +kernel
theorem dX9_lines_38 : decode cX9_lines 38 = .ok (.istore_n 3, 1) := by decide +kernel
theorem dX9_lines_39 : decode cX9_lines 39 = .ok (.iload_n 3, 1) := by decide +kernel
theorem dX9_lines_40 : decode cX9_lines 40 = .ok (.sipush 144, 3) := by decide +kernel
theorem dX9_lines_43 : decode cX9_lines 43 = .ok (.if_icmp .ge 26, 3) := by decide +kernel
theorem dX9_lines_46 : decode cX9_lines 46 = .ok (.aload_n 0, 1) := by decide +kernel
theorem dX9_lines_47 : decode cX9_lines 47 = .ok (.getfield 37, 3) := by decide +kernel
theorem dX9_lines_50 : decode cX9_lines 50 = .ok (.iload_n 3, 1) := by decide +kernel
theorem dX9_lines_51 : decode cX9_lines 51 = .ok (.baload, 1) := by decide +kernel
theorem dX9_lines_52 : decode cX9_lines 52 = .ok (.ifCond .ne 11, 3) := by decide +kernel
theorem dX9_lines_55 : decode cX9_lines 55 = .ok (.iinc 2 1, 3) := by decide +kernel
theorem dX9_lines_58 : decode cX9_lines 58 = .ok (.aload_n 0, 1) := by decide +kernel
theorem dX9_lines_59 : decode cX9_lines 59 = .ok (.iload_n 3, 1) := by decide +kernel
theorem dX9_lines_60 : decode cX9_lines 60 = .ok (.invokevirtual 139, 3) := by decide +kernel
theorem dX9_lines_63 : decode cX9_lines 63 = .ok (.iinc 3 1, 3) := by decide +kernel
theorem dX9_lines_66 : decode cX9_lines 66 = .ok (.goto (-27), 3) := by decide +kernel
theorem dX9_lines_69 : decode cX9_lines 69 = .ok (.iload_n 2, 1) := by decide +kernel
theorem dX9_lines_70 : decode cX9_lines 70 = .ok (.ireturn, 1) := by decide +kernel
set_option maxRecDepth 20000 in
theorem ggX9_meet_X9_isOn : GoodIn wsX9_meet wsX9_isOn := goodIn_r _ [6, 7, 8, 5, 9] (by decide +kernel) (by decide +kernel)
set_option maxRecDepth 20000 in
theorem gX9_meet_X9_isOn : GoodIn wsX9_meet (va_wsS RX9 80 yX9_isOn wsX9_isOn) := goodIn_app (goodIn_of _ (by decide +kernel)) ggX9_meet_X9_isOn
theorem dX9_meet_0 : decode cX9_meet 0 = .ok (.aload_n 0, 1) := by decide +kernel
theorem dX9_meet_1 : decode cX9_meet 1 = .ok (.getfield 37, 3) := by decide +kernel
theorem dX9_meet_4 : decode cX9_meet 4 = .ok (.iload_n 1, 1) := by decide +kernel
theorem dX9_meet_5 : decode cX9_meet 5 = .ok (.iconst 1, 1) := by decide +kernel
theorem dX9_meet_6 : decode cX9_meet 6 = .ok (.bastore, 1) := by decide +kernel
theorem dX9_meet_7 : decode cX9_meet 7 = .ok (.aload_n 0, 1) := by decide +kernel
theorem dX9_meet_8 : decode cX9_meet 8 = .ok (.getfield 41, 3) := by decide +kernel
theorem dX9_meet_11 : decode cX9_meet 11 = .ok (.iconst 0, 1) := by decide +kernel
theorem dX9_meet_12 : decode cX9_meet 12 = .ok (.iload_n 1, 1) := by decide +kernel
theorem dX9_meet_13 : decode cX9_meet 13 = .ok (.iastore, 1) := by decide +kernel
theorem dX9_meet_14 : decode cX9_meet 14 = .ok (.iconst 1, 1) := by decide +kernel
theorem dX9_meet_15 : decode cX9_meet 15 = .ok (.istore_n 2, 1) := by decide +kernel
theorem dX9_meet_16 : decode cX9_meet 16 = .ok (.iconst 0, 1) := by decide +kernel
theorem dX9_meet_17 : decode cX9_meet 17 = .ok (.istore_n 3, 1) := by decide +kernel
theorem dX9_meet_18 : decode cX9_meet 18 = .ok (.iload_n 3, 1) := by decide +kernel
theorem dX9_meet_19 : decode cX9_meet 19 = .ok (.iload_n 2, 1) := by decide +kernel
theorem dX9_meet_20 : decode cX9_meet 20 = .ok (.if_icmp .ge 146, 3) := by decide +kernel
theorem dX9_meet_23 : decode cX9_meet 23 = .ok (.iconst 0, 1) := by decide +kernel
theorem dX9_meet_24 : decode cX9_meet 24 = .ok (.istore 4, 2) := by decide +kernel
theorem dX9_meet_26 : decode cX9_meet 26 = .ok (.iload 4, 2) := by decide +kernel
theorem dX9_meet_28 : decode cX9_meet 28 = .ok (.iconst 4, 1) := by decide +kernel
theorem dX9_meet_29 : decode cX9_meet 29 = .ok (.if_icmp .ge 131, 3) := by decide +kernel
theorem dX9_meet_32 : decode cX9_meet 32 = .ok (.aload_n 0, 1) := by decide +kernel
theorem dX9_meet_33 : decode cX9_meet 33 = .ok (.getfield 41, 3) := by decide +kernel
theorem dX9_meet_36 : decode cX9_meet 36 = .ok (.iload_n 3, 1) := by decide +kernel
theorem dX9_meet_37 : decode cX9_meet 37 = .ok (.iaload, 1) := by decide +kernel
theorem dX9_meet_38 : decode cX9_meet 38 = .ok (.bipush 12, 2) := by decide +kernel
theorem dX9_meet_40 : decode cX9_meet 40 = .ok (.irem, 1) := by decide +kernel
theorem dX9_meet_41 : decode cX9_meet 41 = .ok (.iload 4, 2) := by decide +kernel
theorem dX9_meet_43 : decode cX9_meet 43 = .ok (.iconst 1, 1) := by decide +kernel
theorem dX9_meet_44 : decode cX9_meet 44 = .ok (.if_icmp .ne 7, 3) := by decide +kernel
theorem dX9_meet_47 : decode cX9_meet 47 = .ok (.iconst (-1), 1) := by decide +kernel
theorem dX9_meet_48 : decode cX9_meet 48 = .ok (.goto 14, 3) := by decide +kernel
theorem dX9_meet_51 : decode cX9_meet 51 = .ok (.iload 4, 2) := by decide +kernel
theorem dX9_meet_53 : decode cX9_meet 53 = .ok (.iconst 2, 1) := by decide +kernel
theorem dX9_meet_54 : decode cX9_meet 54 = .ok (.if_icmp .ne 7, 3) := by decide +kernel
theorem dX9_meet_57 : decode cX9_meet 57 = .ok (.iconst 1, 1) := by decide +kernel
theorem dX9_meet_58 : decode cX9_meet 58 = .ok (.goto 4, 3) := by decide +kernel
theorem dX9_meet_61 : decode cX9_meet 61 = .ok (.iconst 0, 1) := by decide +kernel
theorem dX9_meet_62 : decode cX9_meet 62 = .ok (.iadd, 1) := by decide +kernel
theorem dX9_meet_63 : decode cX9_meet 63 = .ok (.istore 5, 2) := by decide +kernel
theorem dX9_meet_65 : decode cX9_meet 65 = .ok (.aload_n 0, 1) := by decide +kernel
theorem dX9_meet_66 : decode cX9_meet 66 = .ok (.getfield 41, 3) := by decide +kernel
theorem dX9_meet_69 : decode cX9_meet 69 = .ok (.iload_n 3, 1) := by decide +kernel
theorem dX9_meet_70 : decode cX9_meet 70 = .ok (.iaload, 1) := by decide +kernel
theorem dX9_meet_71 : decode cX9_meet 71 = .ok (.bipush 12, 2) := by decide +kernel
theorem dX9_meet_73 : decode cX9_meet 73 = .ok (.idiv, 1) := by decide +kernel
theorem dX9_meet_74 : decode cX9_meet 74 = .ok (.iload 4, 2) := by decide +kernel
theorem dX9_meet_76 : decode cX9_meet 76 = .ok (.ifCond .ne 7, 3) := by decide +kernel
theorem dX9_meet_79 : decode cX9_meet 79 = .ok (.iconst (-1), 1) := by decide +kernel
theorem dX9_meet_80 : decode cX9_meet 80 = .ok (.goto 14, 3) := by decide +kernel
theorem dX9_meet_83 : decode cX9_meet 83 = .ok (.iload 4, 2) := by decide +kernel
theorem dX9_meet_85 : decode cX9_meet 85 = .ok (.iconst 3, 1) := by decide +kernel
theorem dX9_meet_86 : decode cX9_meet 86 = .ok (.if_icmp .ne 7, 3) := by decide +kernel
theorem dX9_meet_89 : decode cX9_meet 89 = .ok (.iconst 1, 1) := by decide +kernel
theorem dX9_meet_90 : decode cX9_meet 90 = .ok (.goto 4, 3) := by decide +kernel
theorem dX9_meet_93 : decode cX9_meet 93 = .ok (.iconst 0, 1) := by decide +kernel
theorem dX9_meet_94 : decode cX9_meet 94 = .ok (.iadd, 1) := by decide +kernel
theorem dX9_meet_95 : decode cX9_meet 95 = .ok (.istore 6, 2) := by decide +kernel
theorem dX9_meet_97 : decode cX9_meet 97 = .ok (.iload 5, 2) := by decide +kernel
theorem dX9_meet_99 : decode cX9_meet 99 = .ok (.iload 6, 2) := by decide +kernel
theorem dX9_meet_101 : decode cX9_meet 101 = .ok (.invokestatic 80, 3) := by decide +kernel
theorem dX9_meet_104 : decode cX9_meet 104 = .ok (.ifCond .eq 50, 3) := by decide +kernel
theorem dX9_meet_107 : decode cX9_meet 107 = .ok (.aload_n 0, 1) := by decide +kernel
theorem dX9_meet_108 : decode cX9_meet 108 = .ok (.getfield 37, 3) := by decide +kernel
theorem dX9_meet_111 : decode cX9_meet 111 = .ok (.bipush 12, 2) := by decide +kernel
theorem dX9_meet_113 : decode cX9_meet 113 = .ok (.iload 6, 2) := by decide +kernel
theorem dX9_meet_115 : decode cX9_meet 115 = .ok (.imul, 1) := by decide +kernel
theorem dX9_meet_116 : decode cX9_meet 116 = .ok (.iload 5, 2) := by decide +kernel
theorem dX9_meet_118 : decode cX9_meet 118 = .ok (.iadd, 1) := by decide +kernel
theorem dX9_meet_119 : decode cX9_meet 119 = .ok (.baload, 1) := by decide +kernel
theorem dX9_meet_120 : decode cX9_meet 120 = .ok (.ifCond .ne 34, 3) := by decide +kernel
theorem dX9_meet_123 : decode cX9_meet 123 = .ok (.aload_n 0, 1) := by decide +kernel
theorem dX9_meet_124 : decode cX9_meet 124 = .ok (.getfield 37, 3) := by decide +kernel
theorem dX9_meet_127 : decode cX9_meet 127 = .ok (.bipush 12, 2) := by decide +kernel
theorem dX9_meet_129 : decode cX9_meet 129 = .ok (.iload 6, 2) := by decide +kernel
theorem dX9_meet_131 : decode cX9_meet 131 = .ok (.imul, 1) := by decide +kernel
theorem dX9_meet_132 : decode cX9_meet 132 = .ok (.iload 5, 2) := by decide +kernel
theorem dX9_meet_134 : decode cX9_meet 134 = .ok (.iadd, 1) := by decide +kernel
theorem dX9_meet_135 : decode cX9_meet 135 = .ok (.iconst 1, 1) := by decide +kernel
theorem dX9_meet_136 : decode cX9_meet 136 = .ok (.bastore, 1) := by decide +kernel
theorem dX9_meet_137 : decode cX9_meet 137 = .ok (.aload_n 0, 1) := by decide +kernel
theorem dX9_meet_138 : decode cX9_meet 138 = .ok (.getfield 41, 3) := by decide +kernel
theorem dX9_meet_141 : decode cX9_meet 141 = .ok (.iload_n 2, 1) := by decide +kernel
theorem dX9_meet_142 : decode cX9_meet 142 = .ok (.bipush 12, 2) := by decide +kernel
theorem dX9_meet_144 : decode cX9_meet 144 = .ok (.iload 6, 2) := by decide +kernel
theorem dX9_meet_146 : decode cX9_meet 146 = .ok (.imul, 1) := by decide +kernel
theorem dX9_meet_147 : decode cX9_meet 147 = .ok (.iload 5, 2) := by decide +kernel
theorem dX9_meet_149 : decode cX9_meet 149 = .ok (.iadd, 1) := by decide +kernel
theorem dX9_meet_150 : decode cX9_meet 150 = .ok (.iastore, 1) := by decide +kernel
theorem dX9_meet_151 : decode cX9_meet 151 = .ok (.iinc 2 1, 3) := by decide +kernel
theorem dX9_meet_154 : decode cX9_meet 154 = .ok (.iinc 4 1, 3) := by decide +kernel
theorem dX9_meet_157 : decode cX9_meet 157 = .ok (.goto (-131), 3) := by decide +kernel
theorem dX9_meet_160 : decode cX9_meet 160 = .ok (.iinc 3 1, 3) := by decide +kernel
theorem dX9_meet_163 : decode cX9_meet 163 = .ok (.goto (-145), 3) := by decide +kernel
theorem dX9_meet_166 : decode cX9_meet 166 = .ok (.return_, 1) := by decide +kernel
set_option maxRecDepth 20000 in
theorem ggX9_way_X9_isWay : GoodIn wsX9_way wsX9_isWay := goodIn_r _ [7, 8, 9, 6, 10] (by decide +kernel) (by decide +kernel)
set_option maxRecDepth 20000 in
theorem gX9_way_X9_isWay : GoodIn wsX9_way (va_wsS RX9 142 yX9_isWay wsX9_isWay) := goodIn_app (goodIn_of _ (by decide +kernel)) ggX9_way_X9_isWay
set_option maxRecDepth 20000 in
theorem ggX9_way_X9_noteOf : GoodIn wsX9_way wsX9_noteOf := goodIn_r _ [14, 1, 2, 3, 46, 47, 48, 49, 50, 51, 52, 53, 54, 55, 56, 57, 58, 59, 60, 61] (by decide +kernel) (by decide +kernel)
set_option maxRecDepth 20000 in
theorem gX9_way_X9_noteOf : GoodIn wsX9_way (wsV RX9 145 RX9 yX9_noteOf wsX9_noteOf) := goodIn_app (goodIn_of _ (by decide +kernel)) ggX9_way_X9_noteOf
set_option maxRecDepth 20000 in
theorem ggX9_way_X9_still : GoodIn wsX9_way wsX9_still := goodIn_r _ [18, 19, 20, 21, 22, 6, 23, 24, 25, 26, 27, 28, 46, 47, 48, 49, 50, 51, 52, 53, 54, 55, 56, 57, 58, 59, 60, 61] (by decide +kernel) (by decide +kernel)
set_option maxRecDepth 20000 in
theorem gX9_way_X9_still : GoodIn wsX9_way (wsV RX9 148 RX9 yX9_still wsX9_still) := goodIn_app (goodIn_of _ (by decide +kernel)) ggX9_way_X9_still
set_option maxRecDepth 20000 in
theorem ggX9_way_X9_lines : GoodIn wsX9_way wsX9_lines := goodIn_r _ [32, 33, 20, 21, 22, 6, 23, 19, 24, 25, 26, 27, 28, 34, 35, 36, 37, 38, 39, 40, 41, 8, 9, 10, 46, 47, 48, 49, 50, 51, 52, 53, 54, 55, 56, 57, 58, 59, 60, 61] (by decide +kernel) (by decide +kernel)
set_option maxRecDepth 20000 in
theorem gX9_way_X9_lines : GoodIn wsX9_way (wsV RX9 151 RX9 yX9_lines wsX9_lines) := goodIn_app (goodIn_of _ (by decide +kernel)) ggX9_way_X9_lines
set_option maxRecDepth 20000 in
theorem ggX9_way_X9_isHeld : GoodIn wsX9_way wsX9_isHeld := goodIn_r _ [45, 19, 24, 25, 26, 6, 27, 28, 46, 47, 48, 49, 50, 51, 52, 53, 54, 55, 56, 57, 58, 59, 60, 61] (by decide +kernel) (by decide +kernel)
set_option maxRecDepth 20000 in
theorem gX9_way_X9_isHeld : GoodIn wsX9_way (wsV RX9 66 RX9 yX9_isHeld wsX9_isHeld) := goodIn_app (goodIn_of _ (by decide +kernel)) ggX9_way_X9_isHeld
theorem dX9_way_0 : decode cX9_way 0 = .ok (.iload_n 1, 1) := by decide +kernel
theorem dX9_way_1 : decode cX9_way 1 = .ok (.invokestatic 142, 3) := by decide +kernel
theorem dX9_way_4 : decode cX9_way 4 = .ok (.ifCond .ne 5, 3) := by decide +kernel
theorem dX9_way_7 : decode cX9_way 7 = .ok (.iconst (-1), 1) := by decide +kernel
theorem dX9_way_8 : decode cX9_way 8 = .ok (.ireturn, 1) := by decide +kernel
theorem dX9_way_9 : decode cX9_way 9 = .ok (.iload_n 2, 1) := by decide +kernel
theorem dX9_way_10 : decode cX9_way 10 = .ok (.tableswitch 100 0 7 #[46, 53, 60, 67, 73, 80, 73, 86], 46) := by decide +kernel
theorem dX9_way_56 : decode cX9_way 56 = .ok (.aload_n 0, 1) := by decide +kernel
theorem dX9_way_57 : decode cX9_way 57 = .ok (.getfield 7, 3) := by decide +kernel
theorem dX9_way_60 : decode cX9_way 60 = .ok (.iload_n 1, 1) := by decide +kernel
theorem dX9_way_61 : decode cX9_way 61 = .ok (.iaload, 1) := by decide +kernel
theorem dX9_way_62 : decode cX9_way 62 = .ok (.ireturn, 1) := by decide +kernel
theorem dX9_way_63 : decode cX9_way 63 = .ok (.aload_n 0, 1) := by decide +kernel
theorem dX9_way_64 : decode cX9_way 64 = .ok (.getfield 13, 3) := by decide +kernel
theorem dX9_way_67 : decode cX9_way 67 = .ok (.iload_n 1, 1) := by decide +kernel
theorem dX9_way_68 : decode cX9_way 68 = .ok (.iaload, 1) := by decide +kernel
theorem dX9_way_69 : decode cX9_way 69 = .ok (.ireturn, 1) := by decide +kernel
theorem dX9_way_70 : decode cX9_way 70 = .ok (.aload_n 0, 1) := by decide +kernel
theorem dX9_way_71 : decode cX9_way 71 = .ok (.getfield 16, 3) := by decide +kernel
theorem dX9_way_74 : decode cX9_way 74 = .ok (.iload_n 1, 1) := by decide +kernel
theorem dX9_way_75 : decode cX9_way 75 = .ok (.iaload, 1) := by decide +kernel
theorem dX9_way_76 : decode cX9_way 76 = .ok (.ireturn, 1) := by decide +kernel
theorem dX9_way_77 : decode cX9_way 77 = .ok (.aload_n 0, 1) := by decide +kernel
theorem dX9_way_78 : decode cX9_way 78 = .ok (.iload_n 1, 1) := by decide +kernel
theorem dX9_way_79 : decode cX9_way 79 = .ok (.invokevirtual 145, 3) := by decide +kernel
theorem dX9_way_82 : decode cX9_way 82 = .ok (.ireturn, 1) := by decide +kernel
theorem dX9_way_83 : decode cX9_way 83 = .ok (.aload_n 0, 1) := by decide +kernel
theorem dX9_way_84 : decode cX9_way 84 = .ok (.iload_n 1, 1) := by decide +kernel
theorem dX9_way_85 : decode cX9_way 85 = .ok (.iload_n 2, 1) := by decide +kernel
theorem dX9_way_86 : decode cX9_way 86 = .ok (.invokevirtual 148, 3) := by decide +kernel
theorem dX9_way_89 : decode cX9_way 89 = .ok (.ireturn, 1) := by decide +kernel
theorem dX9_way_90 : decode cX9_way 90 = .ok (.aload_n 0, 1) := by decide +kernel
theorem dX9_way_91 : decode cX9_way 91 = .ok (.iload_n 1, 1) := by decide +kernel
theorem dX9_way_92 : decode cX9_way 92 = .ok (.invokevirtual 151, 3) := by decide +kernel
theorem dX9_way_95 : decode cX9_way 95 = .ok (.ireturn, 1) := by decide +kernel
theorem dX9_way_96 : decode cX9_way 96 = .ok (.aload_n 0, 1) := by decide +kernel
theorem dX9_way_97 : decode cX9_way 97 = .ok (.iload_n 1, 1) := by decide +kernel
theorem dX9_way_98 : decode cX9_way 98 = .ok (.invokevirtual 66, 3) := by decide +kernel
theorem dX9_way_101 : decode cX9_way 101 = .ok (.ifCond .eq 7, 3) := by decide +kernel
theorem dX9_way_104 : decode cX9_way 104 = .ok (.iconst 0, 1) := by decide +kernel
theorem dX9_way_105 : decode cX9_way 105 = .ok (.goto 4, 3) := by decide +kernel
theorem dX9_way_108 : decode cX9_way 108 = .ok (.iconst 1, 1) := by decide +kernel
theorem dX9_way_109 : decode cX9_way 109 = .ok (.ireturn, 1) := by decide +kernel
theorem dX9_way_110 : decode cX9_way 110 = .ok (.bipush (-2), 2) := by decide +kernel
theorem dX9_way_112 : decode cX9_way 112 = .ok (.ireturn, 1) := by decide +kernel
set_option maxRecDepth 20000 in
theorem ggX9_swing_X9_isWay : GoodIn wsX9_swing wsX9_isWay := goodIn_r _ [4, 5, 6, 3, 7] (by decide +kernel) (by decide +kernel)
set_option maxRecDepth 20000 in
theorem gX9_swing_X9_isWay : GoodIn wsX9_swing (va_wsS RX9 142 yX9_isWay wsX9_isWay) := goodIn_app (goodIn_of _ (by decide +kernel)) ggX9_swing_X9_isWay
set_option maxRecDepth 20000 in
theorem ggX9_swing_X9_isOn : GoodIn wsX9_swing wsX9_isOn := goodIn_r _ [10, 5, 6, 3, 7] (by decide +kernel) (by decide +kernel)
set_option maxRecDepth 20000 in
theorem gX9_swing_X9_isOn : GoodIn wsX9_swing (va_wsS RX9 80 yX9_isOn wsX9_isOn) := goodIn_app (goodIn_of _ (by decide +kernel)) ggX9_swing_X9_isOn
set_option maxRecDepth 20000 in
theorem ggX9_swing_X9_swingAt : GoodIn wsX9_swing wsX9_swingAt := goodIn_r _ [14, 15, 16, 17, 18, 19, 20, 21, 22, 23, 24, 25, 26, 27, 28, 29, 30, 31] (by decide +kernel) (by decide +kernel)
set_option maxRecDepth 20000 in
theorem gX9_swing_X9_swingAt : GoodIn wsX9_swing (wsV RX9 63 RX9 yX9_swingAt wsX9_swingAt) := goodIn_app (goodIn_of _ (by decide +kernel)) ggX9_swing_X9_swingAt
theorem dX9_swing_0 : decode cX9_swing 0 = .ok (.iload_n 1, 1) := by decide +kernel
theorem dX9_swing_1 : decode cX9_swing 1 = .ok (.invokestatic 142, 3) := by decide +kernel
theorem dX9_swing_4 : decode cX9_swing 4 = .ok (.ifCond .eq 25, 3) := by decide +kernel
theorem dX9_swing_7 : decode cX9_swing 7 = .ok (.iload_n 2, 1) := by decide +kernel
theorem dX9_swing_8 : decode cX9_swing 8 = .ok (.iload_n 3, 1) := by decide +kernel
theorem dX9_swing_9 : decode cX9_swing 9 = .ok (.invokestatic 80, 3) := by decide +kernel
theorem dX9_swing_12 : decode cX9_swing 12 = .ok (.ifCond .eq 17, 3) := by decide +kernel
theorem dX9_swing_15 : decode cX9_swing 15 = .ok (.aload_n 0, 1) := by decide +kernel
theorem dX9_swing_16 : decode cX9_swing 16 = .ok (.iload_n 1, 1) := by decide +kernel
theorem dX9_swing_17 : decode cX9_swing 17 = .ok (.bipush 12, 2) := by decide +kernel
theorem dX9_swing_19 : decode cX9_swing 19 = .ok (.iload_n 3, 1) := by decide +kernel
theorem dX9_swing_20 : decode cX9_swing 20 = .ok (.imul, 1) := by decide +kernel
theorem dX9_swing_21 : decode cX9_swing 21 = .ok (.iload_n 2, 1) := by decide +kernel
theorem dX9_swing_22 : decode cX9_swing 22 = .ok (.iadd, 1) := by decide +kernel
theorem dX9_swing_23 : decode cX9_swing 23 = .ok (.invokevirtual 63, 3) := by decide +kernel
theorem dX9_swing_26 : decode cX9_swing 26 = .ok (.goto 4, 3) := by decide +kernel
theorem dX9_swing_29 : decode cX9_swing 29 = .ok (.iconst (-1), 1) := by decide +kernel
theorem dX9_swing_30 : decode cX9_swing 30 = .ok (.ireturn, 1) := by decide +kernel
set_option maxRecDepth 20000 in
theorem ggX9_sounds_X9_isBow : GoodIn wsX9_sounds wsX9_isBow := goodIn_r _ [4, 5, 6, 3, 7] (by decide +kernel) (by decide +kernel)
set_option maxRecDepth 20000 in
theorem gX9_sounds_X9_isBow : GoodIn wsX9_sounds (va_wsS RX9 99 yX9_isBow wsX9_isBow) := goodIn_app (goodIn_of _ (by decide +kernel)) ggX9_sounds_X9_isBow
set_option maxRecDepth 20000 in
theorem ggX9_sounds_X9_bowPlace : GoodIn wsX9_sounds wsX9_bowPlace := goodIn_r _ [10] (by decide +kernel) (by decide +kernel)
set_option maxRecDepth 20000 in
theorem gX9_sounds_X9_bowPlace : GoodIn wsX9_sounds (va_wsS RX9 74 yX9_bowPlace wsX9_bowPlace) := goodIn_app (goodIn_of _ (by decide +kernel)) ggX9_sounds_X9_bowPlace
set_option maxRecDepth 20000 in
theorem ggX9_sounds_X9_soundsAt : GoodIn wsX9_sounds wsX9_soundsAt := goodIn_r _ [14, 15, 16, 17, 3, 18, 19, 20, 21, 22, 23, 24, 25, 26, 27, 28, 29, 30, 31, 32, 33, 34, 35, 36, 37, 38, 39, 40, 41, 42, 43, 44] (by decide +kernel) (by decide +kernel)
set_option maxRecDepth 20000 in
theorem gX9_sounds_X9_soundsAt : GoodIn wsX9_sounds (wsV RX9 77 RX9 yX9_soundsAt wsX9_soundsAt) := goodIn_app (goodIn_of _ (by decide +kernel)) ggX9_sounds_X9_soundsAt
theorem dX9_sounds_0 : decode cX9_sounds 0 = .ok (.iload_n 1, 1) := by decide +kernel
theorem dX9_sounds_1 : decode cX9_sounds 1 = .ok (.iload_n 2, 1) := by decide +kernel
theorem dX9_sounds_2 : decode cX9_sounds 2 = .ok (.invokestatic 99, 3) := by decide +kernel
theorem dX9_sounds_5 : decode cX9_sounds 5 = .ok (.ifCond .eq 15, 3) := by decide +kernel
theorem dX9_sounds_8 : decode cX9_sounds 8 = .ok (.aload_n 0, 1) := by decide +kernel
theorem dX9_sounds_9 : decode cX9_sounds 9 = .ok (.iload_n 1, 1) := by decide +kernel
theorem dX9_sounds_10 : decode cX9_sounds 10 = .ok (.iload_n 2, 1) := by decide +kernel
theorem dX9_sounds_11 : decode cX9_sounds 11 = .ok (.invokestatic 74, 3) := by decide +kernel
theorem dX9_sounds_14 : decode cX9_sounds 14 = .ok (.invokevirtual 77, 3) := by decide +kernel
theorem dX9_sounds_17 : decode cX9_sounds 17 = .ok (.goto 4, 3) := by decide +kernel
theorem dX9_sounds_20 : decode cX9_sounds 20 = .ok (.iconst (-1), 1) := by decide +kernel
theorem dX9_sounds_21 : decode cX9_sounds 21 = .ok (.ireturn, 1) := by decide +kernel
set_option maxRecDepth 20000 in
theorem ggX9_why_X9_isWay : GoodIn wsX9_why wsX9_isWay := goodIn_r _ [5, 6, 7, 4, 8] (by decide +kernel) (by decide +kernel)
set_option maxRecDepth 20000 in
theorem gX9_why_X9_isWay : GoodIn wsX9_why (va_wsS RX9 142 yX9_isWay wsX9_isWay) := goodIn_app (goodIn_of _ (by decide +kernel)) ggX9_why_X9_isWay
set_option maxRecDepth 20000 in
theorem ggX9_why_X9_isBow : GoodIn wsX9_why wsX9_isBow := goodIn_r _ [11, 6, 7, 4, 8] (by decide +kernel) (by decide +kernel)
set_option maxRecDepth 20000 in
theorem gX9_why_X9_isBow : GoodIn wsX9_why (va_wsS RX9 99 yX9_isBow wsX9_isBow) := goodIn_app (goodIn_of _ (by decide +kernel)) ggX9_why_X9_isBow
set_option maxRecDepth 20000 in
theorem ggX9_why_X9_bowPlace : GoodIn wsX9_why wsX9_bowPlace := goodIn_r _ [14] (by decide +kernel) (by decide +kernel)
set_option maxRecDepth 20000 in
theorem gX9_why_X9_bowPlace : GoodIn wsX9_why (va_wsS RX9 74 yX9_bowPlace wsX9_bowPlace) := goodIn_app (goodIn_of _ (by decide +kernel)) ggX9_why_X9_bowPlace
set_option maxRecDepth 20000 in
theorem ggX9_why_X9_isHeld : GoodIn wsX9_why wsX9_isHeld := goodIn_r _ [18, 1, 19, 20, 21, 4, 22, 23, 32, 33, 34, 35, 36, 37, 38, 39, 40, 41, 42, 43, 44, 45, 46, 47] (by decide +kernel) (by decide +kernel)
set_option maxRecDepth 20000 in
theorem gX9_why_X9_isHeld : GoodIn wsX9_why (wsV RX9 66 RX9 yX9_isHeld wsX9_isHeld) := goodIn_app (goodIn_of _ (by decide +kernel)) ggX9_why_X9_isHeld
set_option maxRecDepth 20000 in
theorem ggX9_why_X9_swingAt : GoodIn wsX9_why wsX9_swingAt := goodIn_r _ [22, 23, 32, 33, 34, 35, 36, 37, 38, 39, 40, 41, 42, 43, 44, 45, 46, 47] (by decide +kernel) (by decide +kernel)
set_option maxRecDepth 20000 in
theorem gX9_why_X9_swingAt : GoodIn wsX9_why (wsV RX9 63 RX9 yX9_swingAt wsX9_swingAt) := goodIn_app (goodIn_of _ (by decide +kernel)) ggX9_why_X9_swingAt
set_option maxRecDepth 20000 in
theorem ggX9_why_X9_soundsAt : GoodIn wsX9_why wsX9_soundsAt := goodIn_r _ [27, 28, 29, 30, 4, 31, 1, 15, 16, 17, 18, 19, 20, 21, 22, 23, 32, 33, 34, 35, 36, 37, 38, 39, 40, 41, 42, 43, 44, 45, 46, 47] (by decide +kernel) (by decide +kernel)
set_option maxRecDepth 20000 in
theorem gX9_why_X9_soundsAt : GoodIn wsX9_why (wsV RX9 77 RX9 yX9_soundsAt wsX9_soundsAt) := goodIn_app (goodIn_of _ (by decide +kernel)) ggX9_why_X9_soundsAt
theorem dX9_why_0 : decode cX9_why 0 = .ok (.iload_n 1, 1) := by decide +kernel
theorem dX9_why_1 : decode cX9_why 1 = .ok (.invokestatic 142, 3) := by decide +kernel
theorem dX9_why_4 : decode cX9_why 4 = .ok (.ifCond .eq 11, 3) := by decide +kernel
theorem dX9_why_7 : decode cX9_why 7 = .ok (.iload_n 2, 1) := by decide +kernel
theorem dX9_why_8 : decode cX9_why 8 = .ok (.iload_n 3, 1) := by decide +kernel
theorem dX9_why_9 : decode cX9_why 9 = .ok (.invokestatic 99, 3) := by decide +kernel
theorem dX9_why_12 : decode cX9_why 12 = .ok (.ifCond .ne 5, 3) := by decide +kernel
theorem dX9_why_15 : decode cX9_why 15 = .ok (.iconst (-1), 1) := by decide +kernel
theorem dX9_why_16 : decode cX9_why 16 = .ok (.ireturn, 1) := by decide +kernel
theorem dX9_why_17 : decode cX9_why 17 = .ok (.iload_n 2, 1) := by decide +kernel
theorem dX9_why_18 : decode cX9_why 18 = .ok (.iload_n 3, 1) := by decide +kernel
theorem dX9_why_19 : decode cX9_why 19 = .ok (.invokestatic 74, 3) := by decide +kernel
theorem dX9_why_22 : decode cX9_why 22 = .ok (.istore 4, 2) := by decide +kernel
theorem dX9_why_24 : decode cX9_why 24 = .ok (.aload_n 0, 1) := by decide +kernel
theorem dX9_why_25 : decode cX9_why 25 = .ok (.iload_n 1, 1) := by decide +kernel
theorem dX9_why_26 : decode cX9_why 26 = .ok (.invokevirtual 66, 3) := by decide +kernel
theorem dX9_why_29 : decode cX9_why 29 = .ok (.ifCond .eq 7, 3) := by decide +kernel
theorem dX9_why_32 : decode cX9_why 32 = .ok (.iconst 1, 1) := by decide +kernel
theorem dX9_why_33 : decode cX9_why 33 = .ok (.goto 40, 3) := by decide +kernel
theorem dX9_why_36 : decode cX9_why 36 = .ok (.aload_n 0, 1) := by decide +kernel
theorem dX9_why_37 : decode cX9_why 37 = .ok (.iload_n 1, 1) := by decide +kernel
theorem dX9_why_38 : decode cX9_why 38 = .ok (.iload 4, 2) := by decide +kernel
theorem dX9_why_40 : decode cX9_why 40 = .ok (.invokevirtual 63, 3) := by decide +kernel
theorem dX9_why_43 : decode cX9_why 43 = .ok (.aload_n 0, 1) := by decide +kernel
theorem dX9_why_44 : decode cX9_why 44 = .ok (.getfield 22, 3) := by decide +kernel
theorem dX9_why_47 : decode cX9_why 47 = .ok (.sipush 145, 3) := by decide +kernel
theorem dX9_why_50 : decode cX9_why 50 = .ok (.iaload, 1) := by decide +kernel
theorem dX9_why_51 : decode cX9_why 51 = .ok (.if_icmp .ge 7, 3) := by decide +kernel
theorem dX9_why_54 : decode cX9_why 54 = .ok (.iconst 2, 1) := by decide +kernel
theorem dX9_why_55 : decode cX9_why 55 = .ok (.goto 18, 3) := by decide +kernel
theorem dX9_why_58 : decode cX9_why 58 = .ok (.aload_n 0, 1) := by decide +kernel
theorem dX9_why_59 : decode cX9_why 59 = .ok (.iload 4, 2) := by decide +kernel
theorem dX9_why_61 : decode cX9_why 61 = .ok (.invokevirtual 77, 3) := by decide +kernel
theorem dX9_why_64 : decode cX9_why 64 = .ok (.iload_n 1, 1) := by decide +kernel
theorem dX9_why_65 : decode cX9_why 65 = .ok (.if_icmp .ne 7, 3) := by decide +kernel
theorem dX9_why_68 : decode cX9_why 68 = .ok (.iconst 0, 1) := by decide +kernel
theorem dX9_why_69 : decode cX9_why 69 = .ok (.goto 4, 3) := by decide +kernel
theorem dX9_why_72 : decode cX9_why 72 = .ok (.iconst 3, 1) := by decide +kernel
theorem dX9_why_73 : decode cX9_why 73 = .ok (.ireturn, 1) := by decide +kernel
set_option maxRecDepth 20000 in
theorem ggX9_possible_X9_isPossible : GoodIn wsX9_possible wsX9_isPossible := goodIn_r _ [5, 6, 7, 4, 8, 9, 10, 11, 12, 13, 14, 15, 16, 17, 18, 19, 20, 21, 22, 23, 24, 25, 26, 27, 28, 29, 30, 31, 32, 33, 34, 35, 36, 37, 38, 39, 40, 41, 42] (by decide +kernel) (by decide +kernel)
set_option maxRecDepth 20000 in
theorem gX9_possible_X9_isPossible : GoodIn wsX9_possible (wsV RX9 154 RX9 yX9_isPossible wsX9_isPossible) := goodIn_app (goodIn_of _ (by decide +kernel)) ggX9_possible_X9_isPossible
theorem dX9_possible_0 : decode cX9_possible 0 = .ok (.iload_n 1, 1) := by decide +kernel
theorem dX9_possible_1 : decode cX9_possible 1 = .ok (.ifCond .ge 6, 3) := by decide +kernel
theorem dX9_possible_4 : decode cX9_possible 4 = .ok (.bipush (-2), 2) := by decide +kernel
theorem dX9_possible_6 : decode cX9_possible 6 = .ok (.ireturn, 1) := by decide +kernel
theorem dX9_possible_7 : decode cX9_possible 7 = .ok (.iconst 0, 1) := by decide +kernel
theorem dX9_possible_8 : decode cX9_possible 8 = .ok (.istore_n 2, 1) := by decide +kernel
theorem dX9_possible_9 : decode cX9_possible 9 = .ok (.iconst 0, 1) := by decide +kernel
theorem dX9_possible_10 : decode cX9_possible 10 = .ok (.istore_n 3, 1) := by decide +kernel
theorem dX9_possible_11 : decode cX9_possible 11 = .ok (.iload_n 3, 1) := by decide +kernel
theorem dX9_possible_12 : decode cX9_possible 12 = .ok (.bipush 48, 2) := by decide +kernel
theorem dX9_possible_14 : decode cX9_possible 14 = .ok (.if_icmp .ge 27, 3) := by decide +kernel
theorem dX9_possible_17 : decode cX9_possible 17 = .ok (.aload_n 0, 1) := by decide +kernel
theorem dX9_possible_18 : decode cX9_possible 18 = .ok (.iload_n 3, 1) := by decide +kernel
theorem dX9_possible_19 : decode cX9_possible 19 = .ok (.invokevirtual 154, 3) := by decide +kernel
theorem dX9_possible_22 : decode cX9_possible 22 = .ok (.ifCond .eq 13, 3) := by decide +kernel
theorem dX9_possible_25 : decode cX9_possible 25 = .ok (.iload_n 2, 1) := by decide +kernel
theorem dX9_possible_26 : decode cX9_possible 26 = .ok (.iload_n 1, 1) := by decide +kernel
theorem dX9_possible_27 : decode cX9_possible 27 = .ok (.if_icmp .ne 5, 3) := by decide +kernel
theorem dX9_possible_30 : decode cX9_possible 30 = .ok (.iload_n 3, 1) := by decide +kernel
theorem dX9_possible_31 : decode cX9_possible 31 = .ok (.ireturn, 1) := by decide +kernel
theorem dX9_possible_32 : decode cX9_possible 32 = .ok (.iinc 2 1, 3) := by decide +kernel
theorem dX9_possible_35 : decode cX9_possible 35 = .ok (.iinc 3 1, 3) := by decide +kernel
theorem dX9_possible_38 : decode cX9_possible 38 = .ok (.goto (-27), 3) := by decide +kernel
theorem dX9_possible_41 : decode cX9_possible 41 = .ok (.bipush (-5), 2) := by decide +kernel
theorem dX9_possible_43 : decode cX9_possible 43 = .ok (.ireturn, 1) := by decide +kernel
set_option maxRecDepth 20000 in
theorem ggX9_waiting_X9_in : GoodIn wsX9_waiting wsX9_in := goodIn_r _ [5] (by decide +kernel) (by decide +kernel)
set_option maxRecDepth 20000 in
theorem gX9_waiting_X9_in : GoodIn wsX9_waiting (va_wsS RX9 55 yX9_in wsX9_in) := goodIn_app (goodIn_of _ (by decide +kernel)) ggX9_waiting_X9_in
set_option maxRecDepth 20000 in
theorem ggX9_waiting_X9_bowPlace : GoodIn wsX9_waiting wsX9_bowPlace := goodIn_r _ [8] (by decide +kernel) (by decide +kernel)
set_option maxRecDepth 20000 in
theorem gX9_waiting_X9_bowPlace : GoodIn wsX9_waiting (va_wsS RX9 74 yX9_bowPlace wsX9_bowPlace) := goodIn_app (goodIn_of _ (by decide +kernel)) ggX9_waiting_X9_bowPlace
set_option maxRecDepth 20000 in
theorem ggX9_waiting_X9_soundsAt : GoodIn wsX9_waiting wsX9_soundsAt := goodIn_r _ [12, 13, 14, 15, 4, 16, 1, 17, 18, 19, 20, 21, 22, 23, 24, 25, 26, 27, 28, 29, 30, 31, 32, 33, 34, 35, 36, 37, 38, 39, 40, 41] (by decide +kernel) (by decide +kernel)
set_option maxRecDepth 20000 in
theorem gX9_waiting_X9_soundsAt : GoodIn wsX9_waiting (wsV RX9 77 RX9 yX9_soundsAt wsX9_soundsAt) := goodIn_app (goodIn_of _ (by decide +kernel)) ggX9_waiting_X9_soundsAt
theorem dX9_waiting_0 : decode cX9_waiting 0 = .ok (.iload_n 1, 1) := by decide +kernel
theorem dX9_waiting_1 : decode cX9_waiting 1 = .ok (.ifCond .lt 12, 3) := by decide +kernel
theorem dX9_waiting_4 : decode cX9_waiting 4 = .ok (.iload_n 2, 1) := by decide +kernel
theorem dX9_waiting_5 : decode cX9_waiting 5 = .ok (.iconst 0, 1) := by decide +kernel
theorem dX9_waiting_6 : decode cX9_waiting 6 = .ok (.iconst 3, 1) := by decide +kernel
theorem dX9_waiting_7 : decode cX9_waiting 7 = .ok (.invokestatic 55, 3) := by decide +kernel
theorem dX9_waiting_10 : decode cX9_waiting 10 = .ok (.ifCond .ne 6, 3) := by decide +kernel
theorem dX9_waiting_13 : decode cX9_waiting 13 = .ok (.bipush (-2), 2) := by decide +kernel
theorem dX9_waiting_15 : decode cX9_waiting 15 = .ok (.ireturn, 1) := by decide +kernel
theorem dX9_waiting_16 : decode cX9_waiting 16 = .ok (.iload_n 1, 1) := by decide +kernel
theorem dX9_waiting_17 : decode cX9_waiting 17 = .ok (.aload_n 0, 1) := by decide +kernel
theorem dX9_waiting_18 : decode cX9_waiting 18 = .ok (.getfield 22, 3) := by decide +kernel
theorem dX9_waiting_21 : decode cX9_waiting 21 = .ok (.sipush 159, 3) := by decide +kernel
theorem dX9_waiting_24 : decode cX9_waiting 24 = .ok (.iaload, 1) := by decide +kernel
theorem dX9_waiting_25 : decode cX9_waiting 25 = .ok (.if_icmp .lt 6, 3) := by decide +kernel
theorem dX9_waiting_28 : decode cX9_waiting 28 = .ok (.bipush (-5), 2) := by decide +kernel
theorem dX9_waiting_30 : decode cX9_waiting 30 = .ok (.ireturn, 1) := by decide +kernel
theorem dX9_waiting_31 : decode cX9_waiting 31 = .ok (.sipush 160, 3) := by decide +kernel
theorem dX9_waiting_34 : decode cX9_waiting 34 = .ok (.iconst 3, 1) := by decide +kernel
theorem dX9_waiting_35 : decode cX9_waiting 35 = .ok (.iload_n 1, 1) := by decide +kernel
theorem dX9_waiting_36 : decode cX9_waiting 36 = .ok (.imul, 1) := by decide +kernel
theorem dX9_waiting_37 : decode cX9_waiting 37 = .ok (.iadd, 1) := by decide +kernel
theorem dX9_waiting_38 : decode cX9_waiting 38 = .ok (.istore_n 3, 1) := by decide +kernel
theorem dX9_waiting_39 : decode cX9_waiting 39 = .ok (.iload_n 2, 1) := by decide +kernel
theorem dX9_waiting_40 : decode cX9_waiting 40 = .ok (.iconst 3, 1) := by decide +kernel
theorem dX9_waiting_41 : decode cX9_waiting 41 = .ok (.if_icmp .ge 14, 3) := by decide +kernel
theorem dX9_waiting_44 : decode cX9_waiting 44 = .ok (.aload_n 0, 1) := by decide +kernel
theorem dX9_waiting_45 : decode cX9_waiting 45 = .ok (.getfield 22, 3) := by decide +kernel
theorem dX9_waiting_48 : decode cX9_waiting 48 = .ok (.iload_n 3, 1) := by decide +kernel
theorem dX9_waiting_49 : decode cX9_waiting 49 = .ok (.iload_n 2, 1) := by decide +kernel
theorem dX9_waiting_50 : decode cX9_waiting 50 = .ok (.iadd, 1) := by decide +kernel
theorem dX9_waiting_51 : decode cX9_waiting 51 = .ok (.iaload, 1) := by decide +kernel
theorem dX9_waiting_52 : decode cX9_waiting 52 = .ok (.goto 24, 3) := by decide +kernel
theorem dX9_waiting_55 : decode cX9_waiting 55 = .ok (.aload_n 0, 1) := by decide +kernel
theorem dX9_waiting_56 : decode cX9_waiting 56 = .ok (.aload_n 0, 1) := by decide +kernel
theorem dX9_waiting_57 : decode cX9_waiting 57 = .ok (.getfield 22, 3) := by decide +kernel
theorem dX9_waiting_60 : decode cX9_waiting 60 = .ok (.iload_n 3, 1) := by decide +kernel
theorem dX9_waiting_61 : decode cX9_waiting 61 = .ok (.iaload, 1) := by decide +kernel
theorem dX9_waiting_62 : decode cX9_waiting 62 = .ok (.aload_n 0, 1) := by decide +kernel
theorem dX9_waiting_63 : decode cX9_waiting 63 = .ok (.getfield 22, 3) := by decide +kernel
theorem dX9_waiting_66 : decode cX9_waiting 66 = .ok (.iload_n 3, 1) := by decide +kernel
theorem dX9_waiting_67 : decode cX9_waiting 67 = .ok (.iconst 1, 1) := by decide +kernel
theorem dX9_waiting_68 : decode cX9_waiting 68 = .ok (.iadd, 1) := by decide +kernel
theorem dX9_waiting_69 : decode cX9_waiting 69 = .ok (.iaload, 1) := by decide +kernel
theorem dX9_waiting_70 : decode cX9_waiting 70 = .ok (.invokestatic 74, 3) := by decide +kernel
theorem dX9_waiting_73 : decode cX9_waiting 73 = .ok (.invokevirtual 77, 3) := by decide +kernel
theorem dX9_waiting_76 : decode cX9_waiting 76 = .ok (.ireturn, 1) := by decide +kernel
set_option maxRecDepth 20000 in
theorem ggX9_sand_X9_in : GoodIn wsX9_sand wsX9_in := goodIn_r _ [5] (by decide +kernel) (by decide +kernel)
set_option maxRecDepth 20000 in
theorem gX9_sand_X9_in : GoodIn wsX9_sand (va_wsS RX9 55 yX9_in wsX9_in) := goodIn_app (goodIn_of _ (by decide +kernel)) ggX9_sand_X9_in
theorem dX9_sand_0 : decode cX9_sand 0 = .ok (.iload_n 2, 1) := by decide +kernel
theorem dX9_sand_1 : decode cX9_sand 1 = .ok (.iconst 0, 1) := by decide +kernel
theorem dX9_sand_2 : decode cX9_sand 2 = .ok (.bipush 11, 2) := by decide +kernel
theorem dX9_sand_4 : decode cX9_sand 4 = .ok (.invokestatic 55, 3) := by decide +kernel
theorem dX9_sand_7 : decode cX9_sand 7 = .ok (.ifCond .ne 5, 3) := by decide +kernel
theorem dX9_sand_10 : decode cX9_sand 10 = .ok (.iconst (-1), 1) := by decide +kernel
theorem dX9_sand_11 : decode cX9_sand 11 = .ok (.ireturn, 1) := by decide +kernel
theorem dX9_sand_12 : decode cX9_sand 12 = .ok (.iconst 0, 1) := by decide +kernel
theorem dX9_sand_13 : decode cX9_sand 13 = .ok (.istore_n 3, 1) := by decide +kernel
theorem dX9_sand_14 : decode cX9_sand 14 = .ok (.iconst 0, 1) := by decide +kernel
theorem dX9_sand_15 : decode cX9_sand 15 = .ok (.istore 4, 2) := by decide +kernel
theorem dX9_sand_17 : decode cX9_sand 17 = .ok (.iload 4, 2) := by decide +kernel
theorem dX9_sand_19 : decode cX9_sand 19 = .ok (.sipush 144, 3) := by decide +kernel
theorem dX9_sand_22 : decode cX9_sand 22 = .ok (.if_icmp .ge 46, 3) := by decide +kernel
theorem dX9_sand_25 : decode cX9_sand 25 = .ok (.iload_n 3, 1) := by decide +kernel
theorem dX9_sand_26 : decode cX9_sand 26 = .ok (.iload_n 1, 1) := by decide +kernel
theorem dX9_sand_27 : decode cX9_sand 27 = .ok (.ifCond .eq 11, 3) := by decide +kernel
theorem dX9_sand_30 : decode cX9_sand 30 = .ok (.iload 4, 2) := by decide +kernel
theorem dX9_sand_32 : decode cX9_sand 32 = .ok (.bipush 12, 2) := by decide +kernel
theorem dX9_sand_34 : decode cX9_sand 34 = .ok (.idiv, 1) := by decide +kernel
theorem dX9_sand_35 : decode cX9_sand 35 = .ok (.goto 8, 3) := by decide +kernel
theorem dX9_sand_38 : decode cX9_sand 38 = .ok (.iload 4, 2) := by decide +kernel
theorem dX9_sand_40 : decode cX9_sand 40 = .ok (.bipush 12, 2) := by decide +kernel
theorem dX9_sand_42 : decode cX9_sand 42 = .ok (.irem, 1) := by decide +kernel
theorem dX9_sand_43 : decode cX9_sand 43 = .ok (.iload_n 2, 1) := by decide +kernel
theorem dX9_sand_44 : decode cX9_sand 44 = .ok (.if_icmp .ne 15, 3) := by decide +kernel
theorem dX9_sand_47 : decode cX9_sand 47 = .ok (.aload_n 0, 1) := by decide +kernel
theorem dX9_sand_48 : decode cX9_sand 48 = .ok (.getfield 22, 3) := by decide +kernel
theorem dX9_sand_51 : decode cX9_sand 51 = .ok (.iconst 0, 1) := by decide +kernel
theorem dX9_sand_52 : decode cX9_sand 52 = .ok (.iload 4, 2) := by decide +kernel
theorem dX9_sand_54 : decode cX9_sand 54 = .ok (.iadd, 1) := by decide +kernel
theorem dX9_sand_55 : decode cX9_sand 55 = .ok (.iaload, 1) := by decide +kernel
theorem dX9_sand_56 : decode cX9_sand 56 = .ok (.goto 4, 3) := by decide +kernel
theorem dX9_sand_59 : decode cX9_sand 59 = .ok (.iconst 0, 1) := by decide +kernel
theorem dX9_sand_60 : decode cX9_sand 60 = .ok (.iadd, 1) := by decide +kernel
theorem dX9_sand_61 : decode cX9_sand 61 = .ok (.istore_n 3, 1) := by decide +kernel
theorem dX9_sand_62 : decode cX9_sand 62 = .ok (.iinc 4 1, 3) := by decide +kernel
theorem dX9_sand_65 : decode cX9_sand 65 = .ok (.goto (-48), 3) := by decide +kernel
theorem dX9_sand_68 : decode cX9_sand 68 = .ok (.iload_n 3, 1) := by decide +kernel
theorem dX9_sand_69 : decode cX9_sand 69 = .ok (.ireturn, 1) := by decide +kernel
set_option maxRecDepth 20000 in
theorem ggX9_possibles_X9_isPossible : GoodIn wsX9_possibles wsX9_isPossible := goodIn_r _ [5, 6, 7, 4, 8, 9, 10, 11, 12, 13, 14, 15, 16, 17, 18, 19, 20, 21, 22, 23, 24, 25, 26, 27, 28, 29, 30, 31, 32, 33, 34, 35, 36, 37, 38, 39, 40, 41, 42] (by decide +kernel) (by decide +kernel)
set_option maxRecDepth 20000 in
theorem gX9_possibles_X9_isPossible : GoodIn wsX9_possibles (wsV RX9 154 RX9 yX9_isPossible wsX9_isPossible) := goodIn_app (goodIn_of _ (by decide +kernel)) ggX9_possibles_X9_isPossible
theorem dX9_possibles_0 : decode cX9_possibles 0 = .ok (.iconst 0, 1) := by decide +kernel
theorem dX9_possibles_1 : decode cX9_possibles 1 = .ok (.istore_n 1, 1) := by decide +kernel
theorem dX9_possibles_2 : decode cX9_possibles 2 = .ok (.iconst 0, 1) := by decide +kernel
theorem dX9_possibles_3 : decode cX9_possibles 3 = .ok (.istore_n 2, 1) := by decide +kernel
theorem dX9_possibles_4 : decode cX9_possibles 4 = .ok (.iload_n 2, 1) := by decide +kernel
theorem dX9_possibles_5 : decode cX9_possibles 5 = .ok (.bipush 48, 2) := by decide +kernel
theorem dX9_possibles_7 : decode cX9_possibles 7 = .ok (.if_icmp .ge 25, 3) := by decide +kernel
theorem dX9_possibles_10 : decode cX9_possibles 10 = .ok (.iload_n 1, 1) := by decide +kernel
theorem dX9_possibles_11 : decode cX9_possibles 11 = .ok (.aload_n 0, 1) := by decide +kernel
theorem dX9_possibles_12 : decode cX9_possibles 12 = .ok (.iload_n 2, 1) := by decide +kernel
theorem dX9_possibles_13 : decode cX9_possibles 13 = .ok (.invokevirtual 154, 3) := by decide +kernel
theorem dX9_possibles_16 : decode cX9_possibles 16 = .ok (.ifCond .eq 7, 3) := by decide +kernel
theorem dX9_possibles_19 : decode cX9_possibles 19 = .ok (.iconst 1, 1) := by decide +kernel
theorem dX9_possibles_20 : decode cX9_possibles 20 = .ok (.goto 4, 3) := by decide +kernel
theorem dX9_possibles_23 : decode cX9_possibles 23 = .ok (.iconst 0, 1) := by decide +kernel
theorem dX9_possibles_24 : decode cX9_possibles 24 = .ok (.iadd, 1) := by decide +kernel
theorem dX9_possibles_25 : decode cX9_possibles 25 = .ok (.istore_n 1, 1) := by decide +kernel
theorem dX9_possibles_26 : decode cX9_possibles 26 = .ok (.iinc 2 1, 3) := by decide +kernel
theorem dX9_possibles_29 : decode cX9_possibles 29 = .ok (.goto (-25), 3) := by decide +kernel
theorem dX9_possibles_32 : decode cX9_possibles 32 = .ok (.iload_n 1, 1) := by decide +kernel
theorem dX9_possibles_33 : decode cX9_possibles 33 = .ok (.ireturn, 1) := by decide +kernel
theorem dX9_mostGrains_0 : decode cX9_mostGrains 0 = .ok (.iconst 0, 1) := by decide +kernel
theorem dX9_mostGrains_1 : decode cX9_mostGrains 1 = .ok (.istore_n 1, 1) := by decide +kernel
theorem dX9_mostGrains_2 : decode cX9_mostGrains 2 = .ok (.iconst 0, 1) := by decide +kernel
theorem dX9_mostGrains_3 : decode cX9_mostGrains 3 = .ok (.istore_n 2, 1) := by decide +kernel
theorem dX9_mostGrains_4 : decode cX9_mostGrains 4 = .ok (.iload_n 2, 1) := by decide +kernel
theorem dX9_mostGrains_5 : decode cX9_mostGrains 5 = .ok (.sipush 144, 3) := by decide +kernel
theorem dX9_mostGrains_8 : decode cX9_mostGrains 8 = .ok (.if_icmp .ge 34, 3) := by decide +kernel
theorem dX9_mostGrains_11 : decode cX9_mostGrains 11 = .ok (.aload_n 0, 1) := by decide +kernel
theorem dX9_mostGrains_12 : decode cX9_mostGrains 12 = .ok (.getfield 22, 3) := by decide +kernel
theorem dX9_mostGrains_15 : decode cX9_mostGrains 15 = .ok (.iconst 0, 1) := by decide +kernel
theorem dX9_mostGrains_16 : decode cX9_mostGrains 16 = .ok (.iload_n 2, 1) := by decide +kernel
theorem dX9_mostGrains_17 : decode cX9_mostGrains 17 = .ok (.iadd, 1) := by decide +kernel
theorem dX9_mostGrains_18 : decode cX9_mostGrains 18 = .ok (.iaload, 1) := by decide +kernel
theorem dX9_mostGrains_19 : decode cX9_mostGrains 19 = .ok (.iload_n 1, 1) := by decide +kernel
theorem dX9_mostGrains_20 : decode cX9_mostGrains 20 = .ok (.if_icmp .le 14, 3) := by decide +kernel
theorem dX9_mostGrains_23 : decode cX9_mostGrains 23 = .ok (.aload_n 0, 1) := by decide +kernel
theorem dX9_mostGrains_24 : decode cX9_mostGrains 24 = .ok (.getfield 22, 3) := by decide +kernel
theorem dX9_mostGrains_27 : decode cX9_mostGrains 27 = .ok (.iconst 0, 1) := by decide +kernel
theorem dX9_mostGrains_28 : decode cX9_mostGrains 28 = .ok (.iload_n 2, 1) := by decide +kernel
theorem dX9_mostGrains_29 : decode cX9_mostGrains 29 = .ok (.iadd, 1) := by decide +kernel
theorem dX9_mostGrains_30 : decode cX9_mostGrains 30 = .ok (.iaload, 1) := by decide +kernel
theorem dX9_mostGrains_31 : decode cX9_mostGrains 31 = .ok (.goto 4, 3) := by decide +kernel
theorem dX9_mostGrains_34 : decode cX9_mostGrains 34 = .ok (.iload_n 1, 1) := by decide +kernel
theorem dX9_mostGrains_35 : decode cX9_mostGrains 35 = .ok (.istore_n 1, 1) := by decide +kernel
theorem dX9_mostGrains_36 : decode cX9_mostGrains 36 = .ok (.iinc 2 1, 3) := by decide +kernel
theorem dX9_mostGrains_39 : decode cX9_mostGrains 39 = .ok (.goto (-35), 3) := by decide +kernel
theorem dX9_mostGrains_42 : decode cX9_mostGrains 42 = .ok (.iload_n 1, 1) := by decide +kernel
theorem dX9_mostGrains_43 : decode cX9_mostGrains 43 = .ok (.ireturn, 1) := by decide +kernel
set_option maxRecDepth 20000 in
theorem ggX9_count_X9_allGrains : GoodIn wsX9_count wsX9_allGrains := goodIn_r _ [8, 1, 41, 42, 43, 44, 45, 46, 47, 48, 49, 50, 51, 52, 53, 54, 55, 56] (by decide +kernel) (by decide +kernel)
set_option maxRecDepth 20000 in
theorem gX9_count_X9_allGrains : GoodIn wsX9_count (wsV RX9 92 RX9 yX9_allGrains wsX9_allGrains) := goodIn_app (goodIn_of _ (by decide +kernel)) ggX9_count_X9_allGrains
set_option maxRecDepth 20000 in
theorem ggX9_count_X9_possibles : GoodIn wsX9_count wsX9_possibles := goodIn_r _ [12, 13, 14, 15, 7, 16, 17, 18, 19, 20, 21, 22, 23, 24, 25, 26, 27, 1, 28, 29, 30, 31, 32, 33, 34, 35, 36, 41, 42, 43, 44, 45, 46, 47, 48, 49, 50, 51, 52, 53, 54, 55, 56] (by decide +kernel) (by decide +kernel)
set_option maxRecDepth 20000 in
theorem gX9_count_X9_possibles : GoodIn wsX9_count (wsV RX9 157 RX9 yX9_possibles wsX9_possibles) := goodIn_app (goodIn_of _ (by decide +kernel)) ggX9_count_X9_possibles
set_option maxRecDepth 20000 in
theorem ggX9_count_X9_mostGrains : GoodIn wsX9_count wsX9_mostGrains := goodIn_r _ [40, 1, 41, 42, 43, 44, 45, 46, 47, 48, 49, 50, 51, 52, 53, 54, 55, 56] (by decide +kernel) (by decide +kernel)
set_option maxRecDepth 20000 in
theorem gX9_count_X9_mostGrains : GoodIn wsX9_count (wsV RX9 160 RX9 yX9_mostGrains wsX9_mostGrains) := goodIn_app (goodIn_of _ (by decide +kernel)) ggX9_count_X9_mostGrains
theorem dX9_count_0 : decode cX9_count 0 = .ok (.iload_n 1, 1) := by decide +kernel
theorem dX9_count_1 : decode cX9_count 1 = .ok (.tableswitch 167 0 16 #[83, 88, 88, 88, 101, 110, 119, 119, 119, 133, 138, 143, 143, 143, 143, 157, 162], 83) := by decide +kernel
theorem dX9_count_84 : decode cX9_count 84 = .ok (.aload_n 0, 1) := by decide +kernel
theorem dX9_count_85 : decode cX9_count 85 = .ok (.invokevirtual 92, 3) := by decide +kernel
theorem dX9_count_88 : decode cX9_count 88 = .ok (.ireturn, 1) := by decide +kernel
theorem dX9_count_89 : decode cX9_count 89 = .ok (.aload_n 0, 1) := by decide +kernel
theorem dX9_count_90 : decode cX9_count 90 = .ok (.getfield 22, 3) := by decide +kernel
theorem dX9_count_93 : decode cX9_count 93 = .ok (.sipush 148, 3) := by decide +kernel
theorem dX9_count_96 : decode cX9_count 96 = .ok (.iload_n 1, 1) := by decide +kernel
theorem dX9_count_97 : decode cX9_count 97 = .ok (.iadd, 1) := by decide +kernel
theorem dX9_count_98 : decode cX9_count 98 = .ok (.iconst 1, 1) := by decide +kernel
theorem dX9_count_99 : decode cX9_count 99 = .ok (.isub, 1) := by decide +kernel
theorem dX9_count_100 : decode cX9_count 100 = .ok (.iaload, 1) := by decide +kernel
theorem dX9_count_101 : decode cX9_count 101 = .ok (.ireturn, 1) := by decide +kernel
theorem dX9_count_102 : decode cX9_count 102 = .ok (.aload_n 0, 1) := by decide +kernel
theorem dX9_count_103 : decode cX9_count 103 = .ok (.getfield 22, 3) := by decide +kernel
theorem dX9_count_106 : decode cX9_count 106 = .ok (.sipush 154, 3) := by decide +kernel
theorem dX9_count_109 : decode cX9_count 109 = .ok (.iaload, 1) := by decide +kernel
theorem dX9_count_110 : decode cX9_count 110 = .ok (.ireturn, 1) := by decide +kernel
theorem dX9_count_111 : decode cX9_count 111 = .ok (.aload_n 0, 1) := by decide +kernel
theorem dX9_count_112 : decode cX9_count 112 = .ok (.getfield 22, 3) := by decide +kernel
theorem dX9_count_115 : decode cX9_count 115 = .ok (.sipush 159, 3) := by decide +kernel
theorem dX9_count_118 : decode cX9_count 118 = .ok (.iaload, 1) := by decide +kernel
theorem dX9_count_119 : decode cX9_count 119 = .ok (.ireturn, 1) := by decide +kernel
theorem dX9_count_120 : decode cX9_count 120 = .ok (.aload_n 0, 1) := by decide +kernel
theorem dX9_count_121 : decode cX9_count 121 = .ok (.getfield 22, 3) := by decide +kernel
theorem dX9_count_124 : decode cX9_count 124 = .ok (.sipush 151, 3) := by decide +kernel
theorem dX9_count_127 : decode cX9_count 127 = .ok (.iload_n 1, 1) := by decide +kernel
theorem dX9_count_128 : decode cX9_count 128 = .ok (.iadd, 1) := by decide +kernel
theorem dX9_count_129 : decode cX9_count 129 = .ok (.bipush 6, 2) := by decide +kernel
theorem dX9_count_131 : decode cX9_count 131 = .ok (.isub, 1) := by decide +kernel
theorem dX9_count_132 : decode cX9_count 132 = .ok (.iaload, 1) := by decide +kernel
theorem dX9_count_133 : decode cX9_count 133 = .ok (.ireturn, 1) := by decide +kernel
theorem dX9_count_134 : decode cX9_count 134 = .ok (.aload_n 0, 1) := by decide +kernel
theorem dX9_count_135 : decode cX9_count 135 = .ok (.invokevirtual 157, 3) := by decide +kernel
theorem dX9_count_138 : decode cX9_count 138 = .ok (.ireturn, 1) := by decide +kernel
theorem dX9_count_139 : decode cX9_count 139 = .ok (.aload_n 0, 1) := by decide +kernel
theorem dX9_count_140 : decode cX9_count 140 = .ok (.invokevirtual 160, 3) := by decide +kernel
theorem dX9_count_143 : decode cX9_count 143 = .ok (.ireturn, 1) := by decide +kernel
theorem dX9_count_144 : decode cX9_count 144 = .ok (.aload_n 0, 1) := by decide +kernel
theorem dX9_count_145 : decode cX9_count 145 = .ok (.getfield 22, 3) := by decide +kernel
theorem dX9_count_148 : decode cX9_count 148 = .ok (.sipush 144, 3) := by decide +kernel
theorem dX9_count_151 : decode cX9_count 151 = .ok (.iload_n 1, 1) := by decide +kernel
theorem dX9_count_152 : decode cX9_count 152 = .ok (.iadd, 1) := by decide +kernel
theorem dX9_count_153 : decode cX9_count 153 = .ok (.bipush 11, 2) := by decide +kernel
theorem dX9_count_155 : decode cX9_count 155 = .ok (.isub, 1) := by decide +kernel
theorem dX9_count_156 : decode cX9_count 156 = .ok (.iaload, 1) := by decide +kernel
theorem dX9_count_157 : decode cX9_count 157 = .ok (.ireturn, 1) := by decide +kernel
theorem dX9_count_158 : decode cX9_count 158 = .ok (.aload_n 0, 1) := by decide +kernel
theorem dX9_count_159 : decode cX9_count 159 = .ok (.getfield 59, 3) := by decide +kernel
theorem dX9_count_162 : decode cX9_count 162 = .ok (.ireturn, 1) := by decide +kernel
theorem dX9_count_163 : decode cX9_count 163 = .ok (.aload_n 0, 1) := by decide +kernel
theorem dX9_count_164 : decode cX9_count 164 = .ok (.getfield 113, 3) := by decide +kernel
theorem dX9_count_167 : decode cX9_count 167 = .ok (.ireturn, 1) := by decide +kernel
theorem dX9_count_168 : decode cX9_count 168 = .ok (.bipush (-2), 2) := by decide +kernel
theorem dX9_count_170 : decode cX9_count 170 = .ok (.ireturn, 1) := by decide +kernel
set_option maxRecDepth 20000 in
theorem ggX9_clampAt_X9_in : GoodIn wsX9_clampAt wsX9_in := goodIn_r _ [5] (by decide +kernel) (by decide +kernel)
set_option maxRecDepth 20000 in
theorem gX9_clampAt_X9_in : GoodIn wsX9_clampAt (va_wsS RX9 55 yX9_in wsX9_in) := goodIn_app (goodIn_of _ (by decide +kernel)) ggX9_clampAt_X9_in
theorem dX9_clampAt_0 : decode cX9_clampAt 0 = .ok (.iload_n 1, 1) := by decide +kernel
theorem dX9_clampAt_1 : decode cX9_clampAt 1 = .ok (.iconst 0, 1) := by decide +kernel
theorem dX9_clampAt_2 : decode cX9_clampAt 2 = .ok (.aload_n 0, 1) := by decide +kernel
theorem dX9_clampAt_3 : decode cX9_clampAt 3 = .ok (.getfield 22, 3) := by decide +kernel
theorem dX9_clampAt_6 : decode cX9_clampAt 6 = .ok (.sipush 154, 3) := by decide +kernel
theorem dX9_clampAt_9 : decode cX9_clampAt 9 = .ok (.iaload, 1) := by decide +kernel
theorem dX9_clampAt_10 : decode cX9_clampAt 10 = .ok (.iconst 1, 1) := by decide +kernel
theorem dX9_clampAt_11 : decode cX9_clampAt 11 = .ok (.isub, 1) := by decide +kernel
theorem dX9_clampAt_12 : decode cX9_clampAt 12 = .ok (.invokestatic 55, 3) := by decide +kernel
theorem dX9_clampAt_15 : decode cX9_clampAt 15 = .ok (.ifCond .ne 7, 3) := by decide +kernel
theorem dX9_clampAt_18 : decode cX9_clampAt 18 = .ok (.iconst (-1), 1) := by decide +kernel
theorem dX9_clampAt_19 : decode cX9_clampAt 19 = .ok (.goto 36, 3) := by decide +kernel
theorem dX9_clampAt_22 : decode cX9_clampAt 22 = .ok (.iload_n 2, 1) := by decide +kernel
theorem dX9_clampAt_23 : decode cX9_clampAt 23 = .ok (.ifCond .eq 19, 3) := by decide +kernel
theorem dX9_clampAt_26 : decode cX9_clampAt 26 = .ok (.aload_n 0, 1) := by decide +kernel
theorem dX9_clampAt_27 : decode cX9_clampAt 27 = .ok (.getfield 22, 3) := by decide +kernel
theorem dX9_clampAt_30 : decode cX9_clampAt 30 = .ok (.sipush 155, 3) := by decide +kernel
theorem dX9_clampAt_33 : decode cX9_clampAt 33 = .ok (.iload_n 1, 1) := by decide +kernel
theorem dX9_clampAt_34 : decode cX9_clampAt 34 = .ok (.iadd, 1) := by decide +kernel
theorem dX9_clampAt_35 : decode cX9_clampAt 35 = .ok (.iaload, 1) := by decide +kernel
theorem dX9_clampAt_36 : decode cX9_clampAt 36 = .ok (.bipush 12, 2) := by decide +kernel
theorem dX9_clampAt_38 : decode cX9_clampAt 38 = .ok (.idiv, 1) := by decide +kernel
theorem dX9_clampAt_39 : decode cX9_clampAt 39 = .ok (.goto 16, 3) := by decide +kernel
theorem dX9_clampAt_42 : decode cX9_clampAt 42 = .ok (.aload_n 0, 1) := by decide +kernel
theorem dX9_clampAt_43 : decode cX9_clampAt 43 = .ok (.getfield 22, 3) := by decide +kernel
theorem dX9_clampAt_46 : decode cX9_clampAt 46 = .ok (.sipush 155, 3) := by decide +kernel
theorem dX9_clampAt_49 : decode cX9_clampAt 49 = .ok (.iload_n 1, 1) := by decide +kernel
theorem dX9_clampAt_50 : decode cX9_clampAt 50 = .ok (.iadd, 1) := by decide +kernel
theorem dX9_clampAt_51 : decode cX9_clampAt 51 = .ok (.iaload, 1) := by decide +kernel
theorem dX9_clampAt_52 : decode cX9_clampAt 52 = .ok (.bipush 12, 2) := by decide +kernel
theorem dX9_clampAt_54 : decode cX9_clampAt 54 = .ok (.irem, 1) := by decide +kernel
theorem dX9_clampAt_55 : decode cX9_clampAt 55 = .ok (.ireturn, 1) := by decide +kernel
theorem dJ9_abs_0f7a4_0 : decode cJ9_abs_0f7a4 0 = .ok (.iload_n 0, 1) := by decide +kernel
theorem dJ9_abs_0f7a4_1 : decode cJ9_abs_0f7a4 1 = .ok (.ifCond .ge 8, 3) := by decide +kernel
theorem dJ9_abs_0f7a4_4 : decode cJ9_abs_0f7a4 4 = .ok (.iload_n 0, 1) := by decide +kernel
theorem dJ9_abs_0f7a4_5 : decode cJ9_abs_0f7a4 5 = .ok (.ineg, 1) := by decide +kernel
theorem dJ9_abs_0f7a4_6 : decode cJ9_abs_0f7a4 6 = .ok (.goto 4, 3) := by decide +kernel
theorem dJ9_abs_0f7a4_9 : decode cJ9_abs_0f7a4 9 = .ok (.iload_n 0, 1) := by decide +kernel
theorem dJ9_abs_0f7a4_10 : decode cJ9_abs_0f7a4 10 = .ok (.ireturn, 1) := by decide +kernel
theorem dJ9_max_7cf53_0 : decode cJ9_max_7cf53 0 = .ok (.iload_n 0, 1) := by decide +kernel
theorem dJ9_max_7cf53_1 : decode cJ9_max_7cf53 1 = .ok (.iload_n 1, 1) := by decide +kernel
theorem dJ9_max_7cf53_2 : decode cJ9_max_7cf53 2 = .ok (.if_icmp .lt 7, 3) := by decide +kernel
theorem dJ9_max_7cf53_5 : decode cJ9_max_7cf53 5 = .ok (.iload_n 0, 1) := by decide +kernel
theorem dJ9_max_7cf53_6 : decode cJ9_max_7cf53 6 = .ok (.goto 4, 3) := by decide +kernel
theorem dJ9_max_7cf53_9 : decode cJ9_max_7cf53 9 = .ok (.iload_n 1, 1) := by decide +kernel
theorem dJ9_max_7cf53_10 : decode cJ9_max_7cf53 10 = .ok (.ireturn, 1) := by decide +kernel
theorem dJ9_min_7cf53_0 : decode cJ9_min_7cf53 0 = .ok (.iload_n 0, 1) := by decide +kernel
theorem dJ9_min_7cf53_1 : decode cJ9_min_7cf53 1 = .ok (.iload_n 1, 1) := by decide +kernel
theorem dJ9_min_7cf53_2 : decode cJ9_min_7cf53 2 = .ok (.if_icmp .gt 7, 3) := by decide +kernel
theorem dJ9_min_7cf53_5 : decode cJ9_min_7cf53 5 = .ok (.iload_n 0, 1) := by decide +kernel
theorem dJ9_min_7cf53_6 : decode cJ9_min_7cf53 6 = .ok (.goto 4, 3) := by decide +kernel
theorem dJ9_min_7cf53_9 : decode cJ9_min_7cf53 9 = .ok (.iload_n 1, 1) := by decide +kernel
theorem dJ9_min_7cf53_10 : decode cJ9_min_7cf53 10 = .ok (.ireturn, 1) := by decide +kernel
