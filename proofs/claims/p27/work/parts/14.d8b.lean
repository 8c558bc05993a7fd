/-! printed rows -/
theorem dX8_place_133 : decode cX8_place 133 = .ok (.invokevirtual 101, 3) := by decide +kernel
theorem dX8_place_136 : decode cX8_place 136 = .ok (.invokestatic 205, 3) := by decide +kernel
theorem dX8_place_139 : decode cX8_place 139 = .ok (.ireturn, 1) := by decide +kernel
theorem dX8_place_140 : decode cX8_place 140 = .ok (.bipush (-2), 2) := by decide +kernel
theorem dX8_place_142 : decode cX8_place 142 = .ok (.ireturn, 1) := by decide +kernel
theorem dX8_way_0 : decode cX8_way 0 = .ok (.iload_n 1, 1) := by decide +kernel
theorem dX8_way_1 : decode cX8_way 1 = .ok (.invokestatic 190, 3) := by decide +kernel
theorem dX8_way_4 : decode cX8_way 4 = .ok (.ifCond .ne 5, 3) := by decide +kernel
theorem dX8_way_7 : decode cX8_way 7 = .ok (.iconst (-1), 1) := by decide +kernel
theorem dX8_way_8 : decode cX8_way 8 = .ok (.ireturn, 1) := by decide +kernel
theorem dX8_way_9 : decode cX8_way 9 = .ok (.iload_n 2, 1) := by decide +kernel
theorem dX8_way_10 : decode cX8_way 10 = .ok (.tableswitch 124 0 7 #[46, 56, 66, 76, 85, 94, 103, 112], 46) := by decide +kernel
theorem dX8_way_56 : decode cX8_way 56 = .ok (.aload_n 0, 1) := by decide +kernel
theorem dX8_way_57 : decode cX8_way 57 = .ok (.getfield 12, 3) := by decide +kernel
theorem dX8_way_60 : decode cX8_way 60 = .ok (.getfield 208, 3) := by decide +kernel
theorem dX8_way_63 : decode cX8_way 63 = .ok (.iload_n 1, 1) := by decide +kernel
theorem dX8_way_64 : decode cX8_way 64 = .ok (.iaload, 1) := by decide +kernel
theorem dX8_way_65 : decode cX8_way 65 = .ok (.ireturn, 1) := by decide +kernel
theorem dX8_way_66 : decode cX8_way 66 = .ok (.aload_n 0, 1) := by decide +kernel
theorem dX8_way_67 : decode cX8_way 67 = .ok (.getfield 12, 3) := by decide +kernel
theorem dX8_way_70 : decode cX8_way 70 = .ok (.getfield 211, 3) := by decide +kernel
theorem dX8_way_73 : decode cX8_way 73 = .ok (.iload_n 1, 1) := by decide +kernel
theorem dX8_way_74 : decode cX8_way 74 = .ok (.iaload, 1) := by decide +kernel
theorem dX8_way_75 : decode cX8_way 75 = .ok (.ireturn, 1) := by decide +kernel
theorem dX8_way_76 : decode cX8_way 76 = .ok (.aload_n 0, 1) := by decide +kernel
theorem dX8_way_77 : decode cX8_way 77 = .ok (.getfield 12, 3) := by decide +kernel
theorem dX8_way_80 : decode cX8_way 80 = .ok (.getfield 214, 3) := by decide +kernel
theorem dX8_way_83 : decode cX8_way 83 = .ok (.iload_n 1, 1) := by decide +kernel
theorem dX8_way_84 : decode cX8_way 84 = .ok (.iaload, 1) := by decide +kernel
theorem dX8_way_85 : decode cX8_way 85 = .ok (.ireturn, 1) := by decide +kernel
theorem dX8_way_86 : decode cX8_way 86 = .ok (.aload_n 0, 1) := by decide +kernel
theorem dX8_way_87 : decode cX8_way 87 = .ok (.getfield 12, 3) := by decide +kernel
theorem dX8_way_90 : decode cX8_way 90 = .ok (.iload_n 1, 1) := by decide +kernel
theorem dX8_way_91 : decode cX8_way 91 = .ok (.invokevirtual 217, 3) := by decide +kernel
theorem dX8_way_94 : decode cX8_way 94 = .ok (.ireturn, 1) := by decide +kernel
theorem dX8_way_95 : decode cX8_way 95 = .ok (.aload_n 0, 1) := by decide +kernel
theorem dX8_way_96 : decode cX8_way 96 = .ok (.getfield 35, 3) := by decide +kernel
theorem dX8_way_99 : decode cX8_way 99 = .ok (.iload_n 1, 1) := by decide +kernel
theorem dX8_way_100 : decode cX8_way 100 = .ok (.invokevirtual 220, 3) := by decide +kernel
theorem dX8_way_103 : decode cX8_way 103 = .ok (.ireturn, 1) := by decide +kernel
theorem dX8_way_104 : decode cX8_way 104 = .ok (.aload_n 0, 1) := by decide +kernel
theorem dX8_way_105 : decode cX8_way 105 = .ok (.getfield 35, 3) := by decide +kernel
theorem dX8_way_108 : decode cX8_way 108 = .ok (.iload_n 1, 1) := by decide +kernel
theorem dX8_way_109 : decode cX8_way 109 = .ok (.invokevirtual 223, 3) := by decide +kernel
theorem dX8_way_112 : decode cX8_way 112 = .ok (.ireturn, 1) := by decide +kernel
theorem dX8_way_113 : decode cX8_way 113 = .ok (.aload_n 0, 1) := by decide +kernel
theorem dX8_way_114 : decode cX8_way 114 = .ok (.getfield 35, 3) := by decide +kernel
theorem dX8_way_117 : decode cX8_way 117 = .ok (.iload_n 1, 1) := by decide +kernel
theorem dX8_way_118 : decode cX8_way 118 = .ok (.invokevirtual 226, 3) := by decide +kernel
theorem dX8_way_121 : decode cX8_way 121 = .ok (.ireturn, 1) := by decide +kernel
theorem dX8_way_122 : decode cX8_way 122 = .ok (.aload_n 0, 1) := by decide +kernel
theorem dX8_way_123 : decode cX8_way 123 = .ok (.getfield 28, 3) := by decide +kernel
theorem dX8_way_126 : decode cX8_way 126 = .ok (.iload_n 1, 1) := by decide +kernel
theorem dX8_way_127 : decode cX8_way 127 = .ok (.invokevirtual 229, 3) := by decide +kernel
theorem dX8_way_130 : decode cX8_way 130 = .ok (.invokestatic 201, 3) := by decide +kernel
theorem dX8_way_133 : decode cX8_way 133 = .ok (.ireturn, 1) := by decide +kernel
theorem dX8_way_134 : decode cX8_way 134 = .ok (.bipush (-2), 2) := by decide +kernel
theorem dX8_way_136 : decode cX8_way 136 = .ok (.ireturn, 1) := by decide +kernel
theorem dX8_swing_0 : decode cX8_swing 0 = .ok (.iload_n 1, 1) := by decide +kernel
theorem dX8_swing_1 : decode cX8_swing 1 = .ok (.invokestatic 190, 3) := by decide +kernel
theorem dX8_swing_4 : decode cX8_swing 4 = .ok (.ifCond .eq 11, 3) := by decide +kernel
theorem dX8_swing_7 : decode cX8_swing 7 = .ok (.iload_n 2, 1) := by decide +kernel
theorem dX8_swing_8 : decode cX8_swing 8 = .ok (.iload_n 3, 1) := by decide +kernel
theorem dX8_swing_9 : decode cX8_swing 9 = .ok (.invokestatic 67, 3) := by decide +kernel
theorem dX8_swing_12 : decode cX8_swing 12 = .ok (.ifCond .ne 5, 3) := by decide +kernel
theorem dX8_swing_15 : decode cX8_swing 15 = .ok (.iconst (-1), 1) := by decide +kernel
theorem dX8_swing_16 : decode cX8_swing 16 = .ok (.ireturn, 1) := by decide +kernel
theorem dX8_swing_17 : decode cX8_swing 17 = .ok (.aload_n 0, 1) := by decide +kernel
theorem dX8_swing_18 : decode cX8_swing 18 = .ok (.getfield 12, 3) := by decide +kernel
theorem dX8_swing_21 : decode cX8_swing 21 = .ok (.iload_n 1, 1) := by decide +kernel
theorem dX8_swing_22 : decode cX8_swing 22 = .ok (.iload_n 2, 1) := by decide +kernel
theorem dX8_swing_23 : decode cX8_swing 23 = .ok (.iload_n 3, 1) := by decide +kernel
theorem dX8_swing_24 : decode cX8_swing 24 = .ok (.invokevirtual 193, 3) := by decide +kernel
theorem dX8_swing_27 : decode cX8_swing 27 = .ok (.ireturn, 1) := by decide +kernel
theorem dX8_sounds_0 : decode cX8_sounds 0 = .ok (.iload_n 1, 1) := by decide +kernel
theorem dX8_sounds_1 : decode cX8_sounds 1 = .ok (.iload_n 2, 1) := by decide +kernel
theorem dX8_sounds_2 : decode cX8_sounds 2 = .ok (.invokestatic 126, 3) := by decide +kernel
theorem dX8_sounds_5 : decode cX8_sounds 5 = .ok (.ifCond .ne 5, 3) := by decide +kernel
theorem dX8_sounds_8 : decode cX8_sounds 8 = .ok (.iconst (-1), 1) := by decide +kernel
theorem dX8_sounds_9 : decode cX8_sounds 9 = .ok (.ireturn, 1) := by decide +kernel
theorem dX8_sounds_10 : decode cX8_sounds 10 = .ok (.aload_n 0, 1) := by decide +kernel
theorem dX8_sounds_11 : decode cX8_sounds 11 = .ok (.getfield 28, 3) := by decide +kernel
theorem dX8_sounds_14 : decode cX8_sounds 14 = .ok (.iload_n 1, 1) := by decide +kernel
theorem dX8_sounds_15 : decode cX8_sounds 15 = .ok (.iload_n 2, 1) := by decide +kernel
theorem dX8_sounds_16 : decode cX8_sounds 16 = .ok (.invokevirtual 232, 3) := by decide +kernel
theorem dX8_sounds_19 : decode cX8_sounds 19 = .ok (.invokestatic 205, 3) := by decide +kernel
theorem dX8_sounds_22 : decode cX8_sounds 22 = .ok (.ireturn, 1) := by decide +kernel
theorem dX8_why_0 : decode cX8_why 0 = .ok (.iload_n 1, 1) := by decide +kernel
theorem dX8_why_1 : decode cX8_why 1 = .ok (.invokestatic 190, 3) := by decide +kernel
theorem dX8_why_4 : decode cX8_why 4 = .ok (.ifCond .eq 11, 3) := by decide +kernel
theorem dX8_why_7 : decode cX8_why 7 = .ok (.iload_n 2, 1) := by decide +kernel
theorem dX8_why_8 : decode cX8_why 8 = .ok (.iload_n 3, 1) := by decide +kernel
theorem dX8_why_9 : decode cX8_why 9 = .ok (.invokestatic 126, 3) := by decide +kernel
theorem dX8_why_12 : decode cX8_why 12 = .ok (.ifCond .ne 5, 3) := by decide +kernel
theorem dX8_why_15 : decode cX8_why 15 = .ok (.iconst (-1), 1) := by decide +kernel
theorem dX8_why_16 : decode cX8_why 16 = .ok (.ireturn, 1) := by decide +kernel
theorem dX8_why_17 : decode cX8_why 17 = .ok (.aload_n 0, 1) := by decide +kernel
theorem dX8_why_18 : decode cX8_why 18 = .ok (.getfield 28, 3) := by decide +kernel
theorem dX8_why_21 : decode cX8_why 21 = .ok (.iload_n 1, 1) := by decide +kernel
theorem dX8_why_22 : decode cX8_why 22 = .ok (.iload_n 2, 1) := by decide +kernel
theorem dX8_why_23 : decode cX8_why 23 = .ok (.iload_n 3, 1) := by decide +kernel
theorem dX8_why_24 : decode cX8_why 24 = .ok (.invokevirtual 235, 3) := by decide +kernel
theorem dX8_why_27 : decode cX8_why 27 = .ok (.ireturn, 1) := by decide +kernel
theorem dX8_possible_0 : decode cX8_possible 0 = .ok (.iload_n 1, 1) := by decide +kernel
theorem dX8_possible_1 : decode cX8_possible 1 = .ok (.ifCond .ge 6, 3) := by decide +kernel
theorem dX8_possible_4 : decode cX8_possible 4 = .ok (.bipush (-2), 2) := by decide +kernel
theorem dX8_possible_6 : decode cX8_possible 6 = .ok (.ireturn, 1) := by decide +kernel
theorem dX8_possible_7 : decode cX8_possible 7 = .ok (.aload_n 0, 1) := by decide +kernel
theorem dX8_possible_8 : decode cX8_possible 8 = .ok (.getfield 28, 3) := by decide +kernel
theorem dX8_possible_11 : decode cX8_possible 11 = .ok (.invokevirtual 238, 3) := by decide +kernel
theorem dX8_possible_14 : decode cX8_possible 14 = .ok (.iload_n 1, 1) := by decide +kernel
theorem dX8_possible_15 : decode cX8_possible 15 = .ok (.aload_n 0, 1) := by decide +kernel
theorem dX8_possible_16 : decode cX8_possible 16 = .ok (.getfield 28, 3) := by decide +kernel
theorem dX8_possible_19 : decode cX8_possible 19 = .ok (.getfield 241, 3) := by decide +kernel
theorem dX8_possible_22 : decode cX8_possible 22 = .ok (.if_icmp .ge 15, 3) := by decide +kernel
theorem dX8_possible_25 : decode cX8_possible 25 = .ok (.aload_n 0, 1) := by decide +kernel
theorem dX8_possible_26 : decode cX8_possible 26 = .ok (.getfield 28, 3) := by decide +kernel
theorem dX8_possible_29 : decode cX8_possible 29 = .ok (.getfield 244, 3) := by decide +kernel
theorem dX8_possible_32 : decode cX8_possible 32 = .ok (.iload_n 1, 1) := by decide +kernel
theorem dX8_possible_33 : decode cX8_possible 33 = .ok (.iaload, 1) := by decide +kernel
theorem dX8_possible_34 : decode cX8_possible 34 = .ok (.goto 5, 3) := by decide +kernel
theorem dX8_possible_37 : decode cX8_possible 37 = .ok (.bipush (-5), 2) := by decide +kernel
theorem dX8_possible_39 : decode cX8_possible 39 = .ok (.ireturn, 1) := by decide +kernel
theorem dX8_waiting_0 : decode cX8_waiting 0 = .ok (.iload_n 1, 1) := by decide +kernel
theorem dX8_waiting_1 : decode cX8_waiting 1 = .ok (.ifCond .lt 12, 3) := by decide +kernel
theorem dX8_waiting_4 : decode cX8_waiting 4 = .ok (.iload_n 2, 1) := by decide +kernel
theorem dX8_waiting_5 : decode cX8_waiting 5 = .ok (.ifCond .lt 8, 3) := by decide +kernel
theorem dX8_waiting_8 : decode cX8_waiting 8 = .ok (.iload_n 2, 1) := by decide +kernel
theorem dX8_waiting_9 : decode cX8_waiting 9 = .ok (.iconst 3, 1) := by decide +kernel
theorem dX8_waiting_10 : decode cX8_waiting 10 = .ok (.if_icmp .le 6, 3) := by decide +kernel
theorem dX8_waiting_13 : decode cX8_waiting 13 = .ok (.bipush (-2), 2) := by decide +kernel
theorem dX8_waiting_15 : decode cX8_waiting 15 = .ok (.ireturn, 1) := by decide +kernel
theorem dX8_waiting_16 : decode cX8_waiting 16 = .ok (.iload_n 1, 1) := by decide +kernel
theorem dX8_waiting_17 : decode cX8_waiting 17 = .ok (.aload_n 0, 1) := by decide +kernel
theorem dX8_waiting_18 : decode cX8_waiting 18 = .ok (.getfield 19, 3) := by decide +kernel
theorem dX8_waiting_21 : decode cX8_waiting 21 = .ok (.getfield 129, 3) := by decide +kernel
theorem dX8_waiting_24 : decode cX8_waiting 24 = .ok (.getfield 133, 3) := by decide +kernel
theorem dX8_waiting_27 : decode cX8_waiting 27 = .ok (.if_icmp .lt 6, 3) := by decide +kernel
theorem dX8_waiting_30 : decode cX8_waiting 30 = .ok (.bipush (-5), 2) := by decide +kernel
theorem dX8_waiting_32 : decode cX8_waiting 32 = .ok (.ireturn, 1) := by decide +kernel
theorem dX8_waiting_33 : decode cX8_waiting 33 = .ok (.iload_n 2, 1) := by decide +kernel
theorem dX8_waiting_34 : decode cX8_waiting 34 = .ok (.tableswitch 65 0 2 #[26, 39, 52], 26) := by decide +kernel
theorem dX8_waiting_60 : decode cX8_waiting 60 = .ok (.aload_n 0, 1) := by decide +kernel
theorem dX8_waiting_61 : decode cX8_waiting 61 = .ok (.getfield 19, 3) := by decide +kernel
theorem dX8_waiting_64 : decode cX8_waiting 64 = .ok (.getfield 129, 3) := by decide +kernel
theorem dX8_waiting_67 : decode cX8_waiting 67 = .ok (.getfield 247, 3) := by decide +kernel
theorem dX8_waiting_70 : decode cX8_waiting 70 = .ok (.iload_n 1, 1) := by decide +kernel
theorem dX8_waiting_71 : decode cX8_waiting 71 = .ok (.iaload, 1) := by decide +kernel
theorem dX8_waiting_72 : decode cX8_waiting 72 = .ok (.ireturn, 1) := by decide +kernel
theorem dX8_waiting_73 : decode cX8_waiting 73 = .ok (.aload_n 0, 1) := by decide +kernel
theorem dX8_waiting_74 : decode cX8_waiting 74 = .ok (.getfield 19, 3) := by decide +kernel
theorem dX8_waiting_77 : decode cX8_waiting 77 = .ok (.getfield 129, 3) := by decide +kernel
theorem dX8_waiting_80 : decode cX8_waiting 80 = .ok (.getfield 250, 3) := by decide +kernel
theorem dX8_waiting_83 : decode cX8_waiting 83 = .ok (.iload_n 1, 1) := by decide +kernel
theorem dX8_waiting_84 : decode cX8_waiting 84 = .ok (.iaload, 1) := by decide +kernel
theorem dX8_waiting_85 : decode cX8_waiting 85 = .ok (.ireturn, 1) := by decide +kernel
theorem dX8_waiting_86 : decode cX8_waiting 86 = .ok (.aload_n 0, 1) := by decide +kernel
theorem dX8_waiting_87 : decode cX8_waiting 87 = .ok (.getfield 19, 3) := by decide +kernel
theorem dX8_waiting_90 : decode cX8_waiting 90 = .ok (.getfield 129, 3) := by decide +kernel
theorem dX8_waiting_93 : decode cX8_waiting 93 = .ok (.getfield 253, 3) := by decide +kernel
theorem dX8_waiting_96 : decode cX8_waiting 96 = .ok (.iload_n 1, 1) := by decide +kernel
theorem dX8_waiting_97 : decode cX8_waiting 97 = .ok (.iaload, 1) := by decide +kernel
theorem dX8_waiting_98 : decode cX8_waiting 98 = .ok (.ireturn, 1) := by decide +kernel
theorem dX8_waiting_99 : decode cX8_waiting 99 = .ok (.aload_n 0, 1) := by decide +kernel
theorem dX8_waiting_100 : decode cX8_waiting 100 = .ok (.getfield 28, 3) := by decide +kernel
theorem dX8_waiting_103 : decode cX8_waiting 103 = .ok (.aload_n 0, 1) := by decide +kernel
theorem dX8_waiting_104 : decode cX8_waiting 104 = .ok (.getfield 19, 3) := by decide +kernel
theorem dX8_waiting_107 : decode cX8_waiting 107 = .ok (.getfield 129, 3) := by decide +kernel
theorem dX8_waiting_110 : decode cX8_waiting 110 = .ok (.getfield 247, 3) := by decide +kernel
theorem dX8_waiting_113 : decode cX8_waiting 113 = .ok (.iload_n 1, 1) := by decide +kernel
theorem dX8_waiting_114 : decode cX8_waiting 114 = .ok (.iaload, 1) := by decide +kernel
theorem dX8_waiting_115 : decode cX8_waiting 115 = .ok (.aload_n 0, 1) := by decide +kernel
theorem dX8_waiting_116 : decode cX8_waiting 116 = .ok (.getfield 19, 3) := by decide +kernel
theorem dX8_waiting_119 : decode cX8_waiting 119 = .ok (.getfield 129, 3) := by decide +kernel
theorem dX8_waiting_122 : decode cX8_waiting 122 = .ok (.getfield 250, 3) := by decide +kernel
theorem dX8_waiting_125 : decode cX8_waiting 125 = .ok (.iload_n 1, 1) := by decide +kernel
theorem dX8_waiting_126 : decode cX8_waiting 126 = .ok (.iaload, 1) := by decide +kernel
theorem dX8_waiting_127 : decode cX8_waiting 127 = .ok (.invokevirtual 232, 3) := by decide +kernel
theorem dX8_waiting_130 : decode cX8_waiting 130 = .ok (.invokestatic 205, 3) := by decide +kernel
theorem dX8_waiting_133 : decode cX8_waiting 133 = .ok (.ireturn, 1) := by decide +kernel
theorem dX8_sand_0 : decode cX8_sand 0 = .ok (.iload_n 2, 1) := by decide +kernel
theorem dX8_sand_1 : decode cX8_sand 1 = .ok (.invokestatic 256, 3) := by decide +kernel
theorem dX8_sand_4 : decode cX8_sand 4 = .ok (.ifCond .ne 5, 3) := by decide +kernel
theorem dX8_sand_7 : decode cX8_sand 7 = .ok (.iconst (-1), 1) := by decide +kernel
theorem dX8_sand_8 : decode cX8_sand 8 = .ok (.ireturn, 1) := by decide +kernel
theorem dX8_sand_9 : decode cX8_sand 9 = .ok (.iconst 0, 1) := by decide +kernel
theorem dX8_sand_10 : decode cX8_sand 10 = .ok (.istore_n 3, 1) := by decide +kernel
theorem dX8_sand_11 : decode cX8_sand 11 = .ok (.iconst 0, 1) := by decide +kernel
theorem dX8_sand_12 : decode cX8_sand 12 = .ok (.istore 4, 2) := by decide +kernel
theorem dX8_sand_14 : decode cX8_sand 14 = .ok (.iload 4, 2) := by decide +kernel
theorem dX8_sand_16 : decode cX8_sand 16 = .ok (.bipush 12, 2) := by decide +kernel
theorem dX8_sand_18 : decode cX8_sand 18 = .ok (.if_icmp .ge 39, 3) := by decide +kernel
theorem dX8_sand_21 : decode cX8_sand 21 = .ok (.iload_n 3, 1) := by decide +kernel
theorem dX8_sand_22 : decode cX8_sand 22 = .ok (.aload_n 0, 1) := by decide +kernel
theorem dX8_sand_23 : decode cX8_sand 23 = .ok (.getfield 19, 3) := by decide +kernel
theorem dX8_sand_26 : decode cX8_sand 26 = .ok (.getfield 79, 3) := by decide +kernel
theorem dX8_sand_29 : decode cX8_sand 29 = .ok (.iload_n 1, 1) := by decide +kernel
theorem dX8_sand_30 : decode cX8_sand 30 = .ok (.ifCond .eq 12, 3) := by decide +kernel
theorem dX8_sand_33 : decode cX8_sand 33 = .ok (.iload 4, 2) := by decide +kernel
theorem dX8_sand_35 : decode cX8_sand 35 = .ok (.iload_n 2, 1) := by decide +kernel
theorem dX8_sand_36 : decode cX8_sand 36 = .ok (.invokestatic 75, 3) := by decide +kernel
theorem dX8_sand_39 : decode cX8_sand 39 = .ok (.goto 9, 3) := by decide +kernel
theorem dX8_sand_42 : decode cX8_sand 42 = .ok (.iload_n 2, 1) := by decide +kernel
theorem dX8_sand_43 : decode cX8_sand 43 = .ok (.iload 4, 2) := by decide +kernel
theorem dX8_sand_45 : decode cX8_sand 45 = .ok (.invokestatic 75, 3) := by decide +kernel
theorem dX8_sand_48 : decode cX8_sand 48 = .ok (.iaload, 1) := by decide +kernel
theorem dX8_sand_49 : decode cX8_sand 49 = .ok (.iadd, 1) := by decide +kernel
theorem dX8_sand_50 : decode cX8_sand 50 = .ok (.istore_n 3, 1) := by decide +kernel
theorem dX8_sand_51 : decode cX8_sand 51 = .ok (.iinc 4 1, 3) := by decide +kernel
theorem dX8_sand_54 : decode cX8_sand 54 = .ok (.goto (-40), 3) := by decide +kernel
theorem dX8_sand_57 : decode cX8_sand 57 = .ok (.iload_n 3, 1) := by decide +kernel
theorem dX8_sand_58 : decode cX8_sand 58 = .ok (.ireturn, 1) := by decide +kernel
theorem dX8_count_0 : decode cX8_count 0 = .ok (.iload_n 1, 1) := by decide +kernel
theorem dX8_count_1 : decode cX8_count 1 = .ok (.tableswitch 213 0 16 #[83, 91, 99, 107, 115, 123, 134, 142, 150, 161, 176, 184, 184, 184, 184, 197, 205], 83) := by decide +kernel
theorem dX8_count_84 : decode cX8_count 84 = .ok (.aload_n 0, 1) := by decide +kernel
theorem dX8_count_85 : decode cX8_count 85 = .ok (.getfield 19, 3) := by decide +kernel
theorem dX8_count_88 : decode cX8_count 88 = .ok (.invokevirtual 87, 3) := by decide +kernel
theorem dX8_count_91 : decode cX8_count 91 = .ok (.ireturn, 1) := by decide +kernel
theorem dX8_count_92 : decode cX8_count 92 = .ok (.aload_n 0, 1) := by decide +kernel
theorem dX8_count_93 : decode cX8_count 93 = .ok (.getfield 19, 3) := by decide +kernel
theorem dX8_count_96 : decode cX8_count 96 = .ok (.getfield 83, 3) := by decide +kernel
theorem dX8_count_99 : decode cX8_count 99 = .ok (.ireturn, 1) := by decide +kernel
theorem dX8_count_100 : decode cX8_count 100 = .ok (.aload_n 0, 1) := by decide +kernel
theorem dX8_count_101 : decode cX8_count 101 = .ok (.getfield 19, 3) := by decide +kernel
theorem dX8_count_104 : decode cX8_count 104 = .ok (.getfield 91, 3) := by decide +kernel
theorem dX8_count_107 : decode cX8_count 107 = .ok (.ireturn, 1) := by decide +kernel
theorem dX8_count_108 : decode cX8_count 108 = .ok (.aload_n 0, 1) := by decide +kernel
theorem dX8_count_109 : decode cX8_count 109 = .ok (.getfield 19, 3) := by decide +kernel
theorem dX8_count_112 : decode cX8_count 112 = .ok (.getfield 259, 3) := by decide +kernel
theorem dX8_count_115 : decode cX8_count 115 = .ok (.ireturn, 1) := by decide +kernel
theorem dX8_count_116 : decode cX8_count 116 = .ok (.aload_n 0, 1) := by decide +kernel
theorem dX8_count_117 : decode cX8_count 117 = .ok (.getfield 19, 3) := by decide +kernel
theorem dX8_count_120 : decode cX8_count 120 = .ok (.getfield 98, 3) := by decide +kernel
theorem dX8_count_123 : decode cX8_count 123 = .ok (.ireturn, 1) := by decide +kernel
theorem dX8_count_124 : decode cX8_count 124 = .ok (.aload_n 0, 1) := by decide +kernel
theorem dX8_count_125 : decode cX8_count 125 = .ok (.getfield 19, 3) := by decide +kernel
theorem dX8_count_128 : decode cX8_count 128 = .ok (.getfield 129, 3) := by decide +kernel
theorem dX8_count_131 : decode cX8_count 131 = .ok (.getfield 133, 3) := by decide +kernel
theorem dX8_count_134 : decode cX8_count 134 = .ok (.ireturn, 1) := by decide +kernel
theorem dX8_count_135 : decode cX8_count 135 = .ok (.aload_n 0, 1) := by decide +kernel
theorem dX8_count_136 : decode cX8_count 136 = .ok (.getfield 19, 3) := by decide +kernel
theorem dX8_count_139 : decode cX8_count 139 = .ok (.getfield 262, 3) := by decide +kernel
theorem dX8_count_142 : decode cX8_count 142 = .ok (.ireturn, 1) := by decide +kernel
theorem dX8_count_143 : decode cX8_count 143 = .ok (.aload_n 0, 1) := by decide +kernel
theorem dX8_count_144 : decode cX8_count 144 = .ok (.getfield 19, 3) := by decide +kernel
theorem dX8_count_147 : decode cX8_count 147 = .ok (.getfield 264, 3) := by decide +kernel
theorem dX8_count_150 : decode cX8_count 150 = .ok (.ireturn, 1) := by decide +kernel
theorem dX8_count_151 : decode cX8_count 151 = .ok (.aload_n 0, 1) := by decide +kernel
theorem dX8_count_152 : decode cX8_count 152 = .ok (.getfield 19, 3) := by decide +kernel
theorem dX8_count_155 : decode cX8_count 155 = .ok (.getfield 187, 3) := by decide +kernel
theorem dX8_count_158 : decode cX8_count 158 = .ok (.invokestatic 205, 3) := by decide +kernel
theorem dX8_count_161 : decode cX8_count 161 = .ok (.ireturn, 1) := by decide +kernel
theorem dX8_count_162 : decode cX8_count 162 = .ok (.aload_n 0, 1) := by decide +kernel
theorem dX8_count_163 : decode cX8_count 163 = .ok (.getfield 28, 3) := by decide +kernel
theorem dX8_count_166 : decode cX8_count 166 = .ok (.invokevirtual 238, 3) := by decide +kernel
theorem dX8_count_169 : decode cX8_count 169 = .ok (.aload_n 0, 1) := by decide +kernel
theorem dX8_count_170 : decode cX8_count 170 = .ok (.getfield 28, 3) := by decide +kernel
theorem dX8_count_173 : decode cX8_count 173 = .ok (.getfield 241, 3) := by decide +kernel
theorem dX8_count_176 : decode cX8_count 176 = .ok (.ireturn, 1) := by decide +kernel
theorem dX8_count_177 : decode cX8_count 177 = .ok (.aload_n 0, 1) := by decide +kernel
theorem dX8_count_178 : decode cX8_count 178 = .ok (.getfield 19, 3) := by decide +kernel
theorem dX8_count_181 : decode cX8_count 181 = .ok (.invokevirtual 267, 3) := by decide +kernel
theorem dX8_count_184 : decode cX8_count 184 = .ok (.ireturn, 1) := by decide +kernel
theorem dX8_count_185 : decode cX8_count 185 = .ok (.aload_n 0, 1) := by decide +kernel
theorem dX8_count_186 : decode cX8_count 186 = .ok (.getfield 19, 3) := by decide +kernel
theorem dX8_count_189 : decode cX8_count 189 = .ok (.getfield 123, 3) := by decide +kernel
theorem dX8_count_192 : decode cX8_count 192 = .ok (.iload_n 1, 1) := by decide +kernel
theorem dX8_count_193 : decode cX8_count 193 = .ok (.bipush 11, 2) := by decide +kernel
theorem dX8_count_195 : decode cX8_count 195 = .ok (.isub, 1) := by decide +kernel
theorem dX8_count_196 : decode cX8_count 196 = .ok (.iaload, 1) := by decide +kernel
theorem dX8_count_197 : decode cX8_count 197 = .ok (.ireturn, 1) := by decide +kernel
theorem dX8_count_198 : decode cX8_count 198 = .ok (.aload_n 0, 1) := by decide +kernel
theorem dX8_count_199 : decode cX8_count 199 = .ok (.getfield 56, 3) := by decide +kernel
theorem dX8_count_202 : decode cX8_count 202 = .ok (.getfield 178, 3) := by decide +kernel
theorem dX8_count_205 : decode cX8_count 205 = .ok (.ireturn, 1) := by decide +kernel
theorem dX8_count_206 : decode cX8_count 206 = .ok (.aload_n 0, 1) := by decide +kernel
theorem dX8_count_207 : decode cX8_count 207 = .ok (.getfield 49, 3) := by decide +kernel
theorem dX8_count_210 : decode cX8_count 210 = .ok (.getfield 172, 3) := by decide +kernel
theorem dX8_count_213 : decode cX8_count 213 = .ok (.ireturn, 1) := by decide +kernel
theorem dX8_count_214 : decode cX8_count 214 = .ok (.bipush (-2), 2) := by decide +kernel
theorem dX8_count_216 : decode cX8_count 216 = .ok (.ireturn, 1) := by decide +kernel
theorem dX8_clampAt_0 : decode cX8_clampAt 0 = .ok (.aload_n 0, 1) := by decide +kernel
theorem dX8_clampAt_1 : decode cX8_clampAt 1 = .ok (.iload_n 1, 1) := by decide +kernel
theorem dX8_clampAt_2 : decode cX8_clampAt 2 = .ok (.invokevirtual 110, 3) := by decide +kernel
theorem dX8_clampAt_5 : decode cX8_clampAt 5 = .ok (.ifCond .ne 5, 3) := by decide +kernel
theorem dX8_clampAt_8 : decode cX8_clampAt 8 = .ok (.iconst (-1), 1) := by decide +kernel
theorem dX8_clampAt_9 : decode cX8_clampAt 9 = .ok (.ireturn, 1) := by decide +kernel
theorem dX8_clampAt_10 : decode cX8_clampAt 10 = .ok (.iload_n 2, 1) := by decide +kernel
theorem dX8_clampAt_11 : decode cX8_clampAt 11 = .ok (.ifCond .eq 15, 3) := by decide +kernel
theorem dX8_clampAt_14 : decode cX8_clampAt 14 = .ok (.aload_n 0, 1) := by decide +kernel
theorem dX8_clampAt_15 : decode cX8_clampAt 15 = .ok (.getfield 19, 3) := by decide +kernel
theorem dX8_clampAt_18 : decode cX8_clampAt 18 = .ok (.getfield 107, 3) := by decide +kernel
theorem dX8_clampAt_21 : decode cX8_clampAt 21 = .ok (.iload_n 1, 1) := by decide +kernel
theorem dX8_clampAt_22 : decode cX8_clampAt 22 = .ok (.iaload, 1) := by decide +kernel
theorem dX8_clampAt_23 : decode cX8_clampAt 23 = .ok (.goto 12, 3) := by decide +kernel
theorem dX8_clampAt_26 : decode cX8_clampAt 26 = .ok (.aload_n 0, 1) := by decide +kernel
theorem dX8_clampAt_27 : decode cX8_clampAt 27 = .ok (.getfield 19, 3) := by decide +kernel
theorem dX8_clampAt_30 : decode cX8_clampAt 30 = .ok (.getfield 104, 3) := by decide +kernel
theorem dX8_clampAt_33 : decode cX8_clampAt 33 = .ok (.iload_n 1, 1) := by decide +kernel
theorem dX8_clampAt_34 : decode cX8_clampAt 34 = .ok (.iaload, 1) := by decide +kernel
theorem dX8_clampAt_35 : decode cX8_clampAt 35 = .ok (.ireturn, 1) := by decide +kernel
theorem dX8_playBowing_0 : decode cX8_playBowing 0 = .ok (.aload_n 0, 1) := by decide +kernel
theorem dX8_playBowing_1 : decode cX8_playBowing 1 = .ok (.getfield 28, 3) := by decide +kernel
theorem dX8_playBowing_4 : decode cX8_playBowing 4 = .ok (.aload_n 0, 1) := by decide +kernel
theorem dX8_playBowing_5 : decode cX8_playBowing 5 = .ok (.getfield 19, 3) := by decide +kernel
theorem dX8_playBowing_8 : decode cX8_playBowing 8 = .ok (.getfield 129, 3) := by decide +kernel
theorem dX8_playBowing_11 : decode cX8_playBowing 11 = .ok (.getfield 247, 3) := by decide +kernel
theorem dX8_playBowing_14 : decode cX8_playBowing 14 = .ok (.iload_n 1, 1) := by decide +kernel
theorem dX8_playBowing_15 : decode cX8_playBowing 15 = .ok (.iaload, 1) := by decide +kernel
theorem dX8_playBowing_16 : decode cX8_playBowing 16 = .ok (.aload_n 0, 1) := by decide +kernel
theorem dX8_playBowing_17 : decode cX8_playBowing 17 = .ok (.getfield 19, 3) := by decide +kernel
theorem dX8_playBowing_20 : decode cX8_playBowing 20 = .ok (.getfield 129, 3) := by decide +kernel
theorem dX8_playBowing_23 : decode cX8_playBowing 23 = .ok (.getfield 250, 3) := by decide +kernel
theorem dX8_playBowing_26 : decode cX8_playBowing 26 = .ok (.iload_n 1, 1) := by decide +kernel
theorem dX8_playBowing_27 : decode cX8_playBowing 27 = .ok (.iaload, 1) := by decide +kernel
theorem dX8_playBowing_28 : decode cX8_playBowing 28 = .ok (.invokevirtual 232, 3) := by decide +kernel
theorem dX8_playBowing_31 : decode cX8_playBowing 31 = .ok (.istore_n 2, 1) := by decide +kernel
theorem dX8_playBowing_32 : decode cX8_playBowing 32 = .ok (.iload_n 2, 1) := by decide +kernel
theorem dX8_playBowing_33 : decode cX8_playBowing 33 = .ok (.invokestatic 190, 3) := by decide +kernel
theorem dX8_playBowing_36 : decode cX8_playBowing 36 = .ok (.ifCond .ne 18, 3) := by decide +kernel
theorem dX8_playBowing_39 : decode cX8_playBowing 39 = .ok (.aload_n 0, 1) := by decide +kernel
theorem dX8_playBowing_40 : decode cX8_playBowing 40 = .ok (.getfield 19, 3) := by decide +kernel
theorem dX8_playBowing_43 : decode cX8_playBowing 43 = .ok (.dup, 1) := by decide +kernel
theorem dX8_playBowing_44 : decode cX8_playBowing 44 = .ok (.getfield 264, 3) := by decide +kernel
theorem dX8_playBowing_47 : decode cX8_playBowing 47 = .ok (.iconst 1, 1) := by decide +kernel
theorem dX8_playBowing_48 : decode cX8_playBowing 48 = .ok (.iadd, 1) := by decide +kernel
theorem dX8_playBowing_49 : decode cX8_playBowing 49 = .ok (.putfield 264, 3) := by decide +kernel
theorem dX8_playBowing_52 : decode cX8_playBowing 52 = .ok (.iconst 0, 1) := by decide +kernel
theorem dX8_playBowing_53 : decode cX8_playBowing 53 = .ok (.ireturn, 1) := by decide +kernel
theorem dX8_playBowing_54 : decode cX8_playBowing 54 = .ok (.aload_n 0, 1) := by decide +kernel
theorem dX8_playBowing_55 : decode cX8_playBowing 55 = .ok (.getfield 19, 3) := by decide +kernel
theorem dX8_playBowing_58 : decode cX8_playBowing 58 = .ok (.getfield 129, 3) := by decide +kernel
theorem dX8_playBowing_61 : decode cX8_playBowing 61 = .ok (.getfield 253, 3) := by decide +kernel
theorem dX8_playBowing_64 : decode cX8_playBowing 64 = .ok (.iload_n 1, 1) := by decide +kernel
theorem dX8_playBowing_65 : decode cX8_playBowing 65 = .ok (.iaload, 1) := by decide +kernel
theorem dX8_playBowing_66 : decode cX8_playBowing 66 = .ok (.istore_n 3, 1) := by decide +kernel
theorem dX8_playBowing_67 : decode cX8_playBowing 67 = .ok (.aload_n 0, 1) := by decide +kernel
theorem dX8_playBowing_68 : decode cX8_playBowing 68 = .ok (.getfield 42, 3) := by decide +kernel
theorem dX8_playBowing_71 : decode cX8_playBowing 71 = .ok (.iload_n 2, 1) := by decide +kernel
theorem dX8_playBowing_72 : decode cX8_playBowing 72 = .ok (.iload_n 3, 1) := by decide +kernel
theorem dX8_playBowing_73 : decode cX8_playBowing 73 = .ok (.invokevirtual 270, 3) := by decide +kernel
theorem dX8_playBowing_76 : decode cX8_playBowing 76 = .ok (.aload_n 0, 1) := by decide +kernel
theorem dX8_playBowing_77 : decode cX8_playBowing 77 = .ok (.getfield 19, 3) := by decide +kernel
theorem dX8_playBowing_80 : decode cX8_playBowing 80 = .ok (.dup, 1) := by decide +kernel
theorem dX8_playBowing_81 : decode cX8_playBowing 81 = .ok (.getfield 262, 3) := by decide +kernel
theorem dX8_playBowing_84 : decode cX8_playBowing 84 = .ok (.iload_n 3, 1) := by decide +kernel
theorem dX8_playBowing_85 : decode cX8_playBowing 85 = .ok (.iadd, 1) := by decide +kernel
theorem dX8_playBowing_86 : decode cX8_playBowing 86 = .ok (.putfield 262, 3) := by decide +kernel
theorem dX8_playBowing_89 : decode cX8_playBowing 89 = .ok (.aload_n 0, 1) := by decide +kernel
theorem dX8_playBowing_90 : decode cX8_playBowing 90 = .ok (.getfield 19, 3) := by decide +kernel
theorem dX8_playBowing_93 : decode cX8_playBowing 93 = .ok (.iload_n 2, 1) := by decide +kernel
theorem dX8_playBowing_94 : decode cX8_playBowing 94 = .ok (.putfield 187, 3) := by decide +kernel
theorem dX8_playBowing_97 : decode cX8_playBowing 97 = .ok (.iconst 1, 1) := by decide +kernel
theorem dX8_playBowing_98 : decode cX8_playBowing 98 = .ok (.ireturn, 1) := by decide +kernel
theorem dX8_isClamp_0 : decode cX8_isClamp 0 = .ok (.iload_n 1, 1) := by decide +kernel
theorem dX8_isClamp_1 : decode cX8_isClamp 1 = .ok (.ifCond .lt 18, 3) := by decide +kernel
theorem dX8_isClamp_4 : decode cX8_isClamp 4 = .ok (.iload_n 1, 1) := by decide +kernel
theorem dX8_isClamp_5 : decode cX8_isClamp 5 = .ok (.aload_n 0, 1) := by decide +kernel
theorem dX8_isClamp_6 : decode cX8_isClamp 6 = .ok (.getfield 19, 3) := by decide +kernel
theorem dX8_isClamp_9 : decode cX8_isClamp 9 = .ok (.getfield 98, 3) := by decide +kernel
theorem dX8_isClamp_12 : decode cX8_isClamp 12 = .ok (.if_icmp .ge 7, 3) := by decide +kernel
theorem dX8_isClamp_15 : decode cX8_isClamp 15 = .ok (.iconst 1, 1) := by decide +kernel
theorem dX8_isClamp_16 : decode cX8_isClamp 16 = .ok (.goto 4, 3) := by decide +kernel
theorem dX8_isClamp_19 : decode cX8_isClamp 19 = .ok (.iconst 0, 1) := by decide +kernel
theorem dX8_isClamp_20 : decode cX8_isClamp 20 = .ok (.ireturn, 1) := by decide +kernel
theorem dX8_isLine_0 : decode cX8_isLine 0 = .ok (.iload_n 0, 1) := by decide +kernel
theorem dX8_isLine_1 : decode cX8_isLine 1 = .ok (.ifCond .lt 13, 3) := by decide +kernel
theorem dX8_isLine_4 : decode cX8_isLine 4 = .ok (.iload_n 0, 1) := by decide +kernel
theorem dX8_isLine_5 : decode cX8_isLine 5 = .ok (.bipush 12, 2) := by decide +kernel
theorem dX8_isLine_7 : decode cX8_isLine 7 = .ok (.if_icmp .ge 7, 3) := by decide +kernel
theorem dX8_isLine_10 : decode cX8_isLine 10 = .ok (.iconst 1, 1) := by decide +kernel
theorem dX8_isLine_11 : decode cX8_isLine 11 = .ok (.goto 4, 3) := by decide +kernel
theorem dX8_isLine_14 : decode cX8_isLine 14 = .ok (.iconst 0, 1) := by decide +kernel
theorem dX8_isLine_15 : decode cX8_isLine 15 = .ok (.ireturn, 1) := by decide +kernel
theorem dX8_isPlace_0 : decode cX8_isPlace 0 = .ok (.iload_n 0, 1) := by decide +kernel
theorem dX8_isPlace_1 : decode cX8_isPlace 1 = .ok (.ifCond .lt 23, 3) := by decide +kernel
theorem dX8_isPlace_4 : decode cX8_isPlace 4 = .ok (.iload_n 0, 1) := by decide +kernel
theorem dX8_isPlace_5 : decode cX8_isPlace 5 = .ok (.bipush 12, 2) := by decide +kernel
theorem dX8_isPlace_7 : decode cX8_isPlace 7 = .ok (.if_icmp .ge 17, 3) := by decide +kernel
theorem dX8_isPlace_10 : decode cX8_isPlace 10 = .ok (.iload_n 1, 1) := by decide +kernel
theorem dX8_isPlace_11 : decode cX8_isPlace 11 = .ok (.ifCond .lt 13, 3) := by decide +kernel
theorem dX8_isPlace_14 : decode cX8_isPlace 14 = .ok (.iload_n 1, 1) := by decide +kernel
theorem dX8_isPlace_15 : decode cX8_isPlace 15 = .ok (.bipush 12, 2) := by decide +kernel
theorem dX8_isPlace_17 : decode cX8_isPlace 17 = .ok (.if_icmp .ge 7, 3) := by decide +kernel
theorem dX8_isPlace_20 : decode cX8_isPlace 20 = .ok (.iconst 1, 1) := by decide +kernel
theorem dX8_isPlace_21 : decode cX8_isPlace 21 = .ok (.goto 4, 3) := by decide +kernel
theorem dX8_isPlace_24 : decode cX8_isPlace 24 = .ok (.iconst 0, 1) := by decide +kernel
theorem dX8_isPlace_25 : decode cX8_isPlace 25 = .ok (.ireturn, 1) := by decide +kernel
theorem dX8_isWay_0 : decode cX8_isWay 0 = .ok (.iload_n 0, 1) := by decide +kernel
theorem dX8_isWay_1 : decode cX8_isWay 1 = .ok (.ifCond .lt 13, 3) := by decide +kernel
theorem dX8_isWay_4 : decode cX8_isWay 4 = .ok (.iload_n 0, 1) := by decide +kernel
theorem dX8_isWay_5 : decode cX8_isWay 5 = .ok (.bipush 48, 2) := by decide +kernel
theorem dX8_isWay_7 : decode cX8_isWay 7 = .ok (.if_icmp .ge 7, 3) := by decide +kernel
theorem dX8_isWay_10 : decode cX8_isWay 10 = .ok (.iconst 1, 1) := by decide +kernel
theorem dX8_isWay_11 : decode cX8_isWay 11 = .ok (.goto 4, 3) := by decide +kernel
theorem dX8_isWay_14 : decode cX8_isWay 14 = .ok (.iconst 0, 1) := by decide +kernel
theorem dX8_isWay_15 : decode cX8_isWay 15 = .ok (.ireturn, 1) := by decide +kernel
theorem dX8_isBow_0 : decode cX8_isBow 0 = .ok (.iload_n 0, 1) := by decide +kernel
theorem dX8_isBow_1 : decode cX8_isBow 1 = .ok (.ifCond .lt 19, 3) := by decide +kernel
theorem dX8_isBow_4 : decode cX8_isBow 4 = .ok (.iload_n 0, 1) := by decide +kernel
theorem dX8_isBow_5 : decode cX8_isBow 5 = .ok (.iconst 4, 1) := by decide +kernel
theorem dX8_isBow_6 : decode cX8_isBow 6 = .ok (.if_icmp .ge 14, 3) := by decide +kernel
theorem dX8_isBow_9 : decode cX8_isBow 9 = .ok (.iload_n 1, 1) := by decide +kernel
theorem dX8_isBow_10 : decode cX8_isBow 10 = .ok (.invokestatic 256, 3) := by decide +kernel
theorem dX8_isBow_13 : decode cX8_isBow 13 = .ok (.ifCond .eq 7, 3) := by decide +kernel
theorem dX8_isBow_16 : decode cX8_isBow 16 = .ok (.iconst 1, 1) := by decide +kernel
theorem dX8_isBow_17 : decode cX8_isBow 17 = .ok (.goto 4, 3) := by decide +kernel
theorem dX8_isBow_20 : decode cX8_isBow 20 = .ok (.iconst 0, 1) := by decide +kernel
theorem dX8_isBow_21 : decode cX8_isBow 21 = .ok (.ireturn, 1) := by decide +kernel
theorem dX8_placeOf_0 : decode cX8_placeOf 0 = .ok (.iload_n 1, 1) := by decide +kernel
theorem dX8_placeOf_1 : decode cX8_placeOf 1 = .ok (.bipush 12, 2) := by decide +kernel
theorem dX8_placeOf_3 : decode cX8_placeOf 3 = .ok (.imul, 1) := by decide +kernel
theorem dX8_placeOf_4 : decode cX8_placeOf 4 = .ok (.iload_n 0, 1) := by decide +kernel
theorem dX8_placeOf_5 : decode cX8_placeOf 5 = .ok (.iadd, 1) := by decide +kernel
theorem dX8_placeOf_6 : decode cX8_placeOf 6 = .ok (.ireturn, 1) := by decide +kernel
theorem dX8_columnOf_0 : decode cX8_columnOf 0 = .ok (.iload_n 0, 1) := by decide +kernel
theorem dX8_columnOf_1 : decode cX8_columnOf 1 = .ok (.bipush 12, 2) := by decide +kernel
theorem dX8_columnOf_3 : decode cX8_columnOf 3 = .ok (.irem, 1) := by decide +kernel
theorem dX8_columnOf_4 : decode cX8_columnOf 4 = .ok (.ireturn, 1) := by decide +kernel
theorem dX8_rowOf_0 : decode cX8_rowOf 0 = .ok (.iload_n 0, 1) := by decide +kernel
theorem dX8_rowOf_1 : decode cX8_rowOf 1 = .ok (.bipush 12, 2) := by decide +kernel
theorem dX8_rowOf_3 : decode cX8_rowOf 3 = .ok (.idiv, 1) := by decide +kernel
theorem dX8_rowOf_4 : decode cX8_rowOf 4 = .ok (.ireturn, 1) := by decide +kernel
theorem dX8_orNone_0 : decode cX8_orNone 0 = .ok (.iload_n 0, 1) := by decide +kernel
theorem dX8_orNone_1 : decode cX8_orNone 1 = .ok (.ifCond .lt 7, 3) := by decide +kernel
theorem dX8_orNone_4 : decode cX8_orNone 4 = .ok (.iload_n 0, 1) := by decide +kernel
theorem dX8_orNone_5 : decode cX8_orNone 5 = .ok (.goto 5, 3) := by decide +kernel
theorem dX8_orNone_8 : decode cX8_orNone 8 = .ok (.bipush (-5), 2) := by decide +kernel
theorem dX8_orNone_10 : decode cX8_orNone 10 = .ok (.ireturn, 1) := by decide +kernel
theorem dX8_asNumber_0 : decode cX8_asNumber 0 = .ok (.iload_n 0, 1) := by decide +kernel
theorem dX8_asNumber_1 : decode cX8_asNumber 1 = .ok (.ifCond .eq 7, 3) := by decide +kernel
theorem dX8_asNumber_4 : decode cX8_asNumber 4 = .ok (.iconst 1, 1) := by decide +kernel
theorem dX8_asNumber_5 : decode cX8_asNumber 5 = .ok (.goto 4, 3) := by decide +kernel
theorem dX8_asNumber_8 : decode cX8_asNumber 8 = .ok (.iconst 0, 1) := by decide +kernel
theorem dX8_asNumber_9 : decode cX8_asNumber 9 = .ok (.ireturn, 1) := by decide +kernel
