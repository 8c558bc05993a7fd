theorem dX6_init_0 : decode cX6_init 0 = .ok (.aload_n 0, 1) := by decide +kernel
theorem dX6_init_1 : decode cX6_init 1 = .ok (.invokespecial 3, 3) := by decide +kernel
theorem dX6_init_4 : decode cX6_init 4 = .ok (.aload_n 0, 1) := by decide +kernel
theorem dX6_init_5 : decode cX6_init 5 = .ok (.bipush 60, 2) := by decide +kernel
theorem dX6_init_7 : decode cX6_init 7 = .ok (.newarray .char, 2) := by decide +kernel
theorem dX6_init_9 : decode cX6_init 9 = .ok (.putfield 9, 3) := by decide +kernel
theorem dX6_init_12 : decode cX6_init 12 = .ok (.aload_n 0, 1) := by decide +kernel
theorem dX6_init_13 : decode cX6_init 13 = .ok (.iconst 0, 1) := by decide +kernel
theorem dX6_init_14 : decode cX6_init 14 = .ok (.putfield 15, 3) := by decide +kernel
theorem dX6_init_17 : decode cX6_init 17 = .ok (.aload_n 0, 1) := by decide +kernel
theorem dX6_init_18 : decode cX6_init 18 = .ok (.new 19, 3) := by decide +kernel
theorem dX6_init_21 : decode cX6_init 21 = .ok (.dup, 1) := by decide +kernel
theorem dX6_init_22 : decode cX6_init 22 = .ok (.bipush 60, 2) := by decide +kernel
theorem dX6_init_24 : decode cX6_init 24 = .ok (.invokespecial 21, 3) := by decide +kernel
theorem dX6_init_27 : decode cX6_init 27 = .ok (.putfield 24, 3) := by decide +kernel
theorem dX6_init_30 : decode cX6_init 30 = .ok (.aload_n 0, 1) := by decide +kernel
theorem dX6_init_31 : decode cX6_init 31 = .ok (.iconst 0, 1) := by decide +kernel
theorem dX6_init_32 : decode cX6_init 32 = .ok (.putfield 28, 3) := by decide +kernel
theorem dX6_init_35 : decode cX6_init 35 = .ok (.return_, 1) := by decide +kernel
theorem dX6_append_0 : decode cX6_append 0 = .ok (.aload_n 0, 1) := by decide +kernel
theorem dX6_append_1 : decode cX6_append 1 = .ok (.getfield 15, 3) := by decide +kernel
theorem dX6_append_4 : decode cX6_append 4 = .ok (.bipush 60, 2) := by decide +kernel
theorem dX6_append_6 : decode cX6_append 6 = .ok (.if_icmp .ge 23, 3) := by decide +kernel
theorem dX6_append_9 : decode cX6_append 9 = .ok (.aload_n 0, 1) := by decide +kernel
theorem dX6_append_10 : decode cX6_append 10 = .ok (.getfield 9, 3) := by decide +kernel
theorem dX6_append_13 : decode cX6_append 13 = .ok (.aload_n 0, 1) := by decide +kernel
theorem dX6_append_14 : decode cX6_append 14 = .ok (.getfield 15, 3) := by decide +kernel
theorem dX6_append_17 : decode cX6_append 17 = .ok (.iload_n 1, 1) := by decide +kernel
theorem dX6_append_18 : decode cX6_append 18 = .ok (.castore, 1) := by decide +kernel
theorem dX6_append_19 : decode cX6_append 19 = .ok (.aload_n 0, 1) := by decide +kernel
theorem dX6_append_20 : decode cX6_append 20 = .ok (.dup, 1) := by decide +kernel
theorem dX6_append_21 : decode cX6_append 21 = .ok (.getfield 15, 3) := by decide +kernel
theorem dX6_append_24 : decode cX6_append 24 = .ok (.iconst 1, 1) := by decide +kernel
theorem dX6_append_25 : decode cX6_append 25 = .ok (.iadd, 1) := by decide +kernel
theorem dX6_append_26 : decode cX6_append 26 = .ok (.putfield 15, 3) := by decide +kernel
theorem dX6_append_29 : decode cX6_append 29 = .ok (.return_, 1) := by decide +kernel
set_option maxRecDepth 20000 in
theorem ggX6_read_X6_readBowing : GoodIn wsX6_read wsX6_readBowing := goodIn_r _ [7, 1, 2, 8, 9, 10, 6, 11, 12, 13, 14, 15, 16, 17, 18, 19, 20, 21, 22, 23, 24, 25, 26, 27, 28, 29, 30, 31, 32, 33, 34, 35, 36, 37, 38, 39, 40, 41, 42] (by decide +kernel) (by decide +kernel)
set_option maxRecDepth 20000 in
theorem gX6_read_X6_readBowing : GoodIn wsX6_read (wsV RX6 34 RX6 yX6_readBowing wsX6_readBowing) := goodIn_app (goodIn_of _ (by decide +kernel)) ggX6_read_X6_readBowing
set_option maxRecDepth 20000 in
theorem ggX6_read_X6_next : GoodIn wsX6_read wsX6_next := goodIn_r _ [11, 1, 12, 13, 34, 35, 36, 37] (by decide +kernel) (by decide +kernel)
set_option maxRecDepth 20000 in
theorem gX6_read_X6_next : GoodIn wsX6_read (wsV RX6 38 RX6 yX6_next wsX6_next) := goodIn_app (goodIn_of _ (by decide +kernel)) ggX6_read_X6_next
theorem dX6_read_0 : decode cX6_read 0 = .ok (.aload_n 0, 1) := by decide +kernel
theorem dX6_read_1 : decode cX6_read 1 = .ok (.iconst 0, 1) := by decide +kernel
theorem dX6_read_2 : decode cX6_read 2 = .ok (.putfield 28, 3) := by decide +kernel
theorem dX6_read_5 : decode cX6_read 5 = .ok (.aload_n 0, 1) := by decide +kernel
theorem dX6_read_6 : decode cX6_read 6 = .ok (.getfield 24, 3) := by decide +kernel
theorem dX6_read_9 : decode cX6_read 9 = .ok (.iconst 0, 1) := by decide +kernel
theorem dX6_read_10 : decode cX6_read 10 = .ok (.putfield 31, 3) := by decide +kernel
theorem dX6_read_13 : decode cX6_read 13 = .ok (.iconst 0, 1) := by decide +kernel
theorem dX6_read_14 : decode cX6_read 14 = .ok (.istore_n 1, 1) := by decide +kernel
theorem dX6_read_15 : decode cX6_read 15 = .ok (.iload_n 1, 1) := by decide +kernel
theorem dX6_read_16 : decode cX6_read 16 = .ok (.bipush 60, 2) := by decide +kernel
theorem dX6_read_18 : decode cX6_read 18 = .ok (.if_icmp .ge 49, 3) := by decide +kernel
theorem dX6_read_21 : decode cX6_read 21 = .ok (.aload_n 0, 1) := by decide +kernel
theorem dX6_read_22 : decode cX6_read 22 = .ok (.invokevirtual 34, 3) := by decide +kernel
theorem dX6_read_25 : decode cX6_read 25 = .ok (.ifCond .ne 5, 3) := by decide +kernel
theorem dX6_read_28 : decode cX6_read 28 = .ok (.iconst 0, 1) := by decide +kernel
theorem dX6_read_29 : decode cX6_read 29 = .ok (.ireturn, 1) := by decide +kernel
theorem dX6_read_30 : decode cX6_read 30 = .ok (.aload_n 0, 1) := by decide +kernel
theorem dX6_read_31 : decode cX6_read 31 = .ok (.invokevirtual 38, 3) := by decide +kernel
theorem dX6_read_34 : decode cX6_read 34 = .ok (.iconst (-1), 1) := by decide +kernel
theorem dX6_read_35 : decode cX6_read 35 = .ok (.if_icmp .ne 5, 3) := by decide +kernel
theorem dX6_read_38 : decode cX6_read 38 = .ok (.iconst 1, 1) := by decide +kernel
theorem dX6_read_39 : decode cX6_read 39 = .ok (.ireturn, 1) := by decide +kernel
theorem dX6_read_40 : decode cX6_read 40 = .ok (.aload_n 0, 1) := by decide +kernel
theorem dX6_read_41 : decode cX6_read 41 = .ok (.invokevirtual 38, 3) := by decide +kernel
theorem dX6_read_44 : decode cX6_read 44 = .ok (.bipush 44, 2) := by decide +kernel
theorem dX6_read_46 : decode cX6_read 46 = .ok (.if_icmp .eq 5, 3) := by decide +kernel
theorem dX6_read_49 : decode cX6_read 49 = .ok (.iconst 0, 1) := by decide +kernel
theorem dX6_read_50 : decode cX6_read 50 = .ok (.ireturn, 1) := by decide +kernel
theorem dX6_read_51 : decode cX6_read 51 = .ok (.aload_n 0, 1) := by decide +kernel
theorem dX6_read_52 : decode cX6_read 52 = .ok (.dup, 1) := by decide +kernel
theorem dX6_read_53 : decode cX6_read 53 = .ok (.getfield 28, 3) := by decide +kernel
theorem dX6_read_56 : decode cX6_read 56 = .ok (.iconst 1, 1) := by decide +kernel
theorem dX6_read_57 : decode cX6_read 57 = .ok (.iadd, 1) := by decide +kernel
theorem dX6_read_58 : decode cX6_read 58 = .ok (.putfield 28, 3) := by decide +kernel
theorem dX6_read_61 : decode cX6_read 61 = .ok (.iinc 1 1, 3) := by decide +kernel
theorem dX6_read_64 : decode cX6_read 64 = .ok (.goto (-49), 3) := by decide +kernel
theorem dX6_read_67 : decode cX6_read 67 = .ok (.iconst 0, 1) := by decide +kernel
theorem dX6_read_68 : decode cX6_read 68 = .ok (.ireturn, 1) := by decide +kernel
theorem dX6_fault_0 : decode cX6_fault 0 = .ok (.aload_n 0, 1) := by decide +kernel
theorem dX6_fault_1 : decode cX6_fault 1 = .ok (.getfield 28, 3) := by decide +kernel
theorem dX6_fault_4 : decode cX6_fault 4 = .ok (.ireturn, 1) := by decide +kernel
theorem dX6_next_0 : decode cX6_next 0 = .ok (.aload_n 0, 1) := by decide +kernel
theorem dX6_next_1 : decode cX6_next 1 = .ok (.getfield 28, 3) := by decide +kernel
theorem dX6_next_4 : decode cX6_next 4 = .ok (.ifCond .lt 27, 3) := by decide +kernel
theorem dX6_next_7 : decode cX6_next 7 = .ok (.aload_n 0, 1) := by decide +kernel
theorem dX6_next_8 : decode cX6_next 8 = .ok (.getfield 28, 3) := by decide +kernel
theorem dX6_next_11 : decode cX6_next 11 = .ok (.aload_n 0, 1) := by decide +kernel
theorem dX6_next_12 : decode cX6_next 12 = .ok (.getfield 15, 3) := by decide +kernel
theorem dX6_next_15 : decode cX6_next 15 = .ok (.if_icmp .ge 16, 3) := by decide +kernel
theorem dX6_next_18 : decode cX6_next 18 = .ok (.aload_n 0, 1) := by decide +kernel
theorem dX6_next_19 : decode cX6_next 19 = .ok (.getfield 28, 3) := by decide +kernel
theorem dX6_next_22 : decode cX6_next 22 = .ok (.bipush 60, 2) := by decide +kernel
theorem dX6_next_24 : decode cX6_next 24 = .ok (.if_icmp .ge 7, 3) := by decide +kernel
theorem dX6_next_27 : decode cX6_next 27 = .ok (.iconst 1, 1) := by decide +kernel
theorem dX6_next_28 : decode cX6_next 28 = .ok (.goto 4, 3) := by decide +kernel
theorem dX6_next_31 : decode cX6_next 31 = .ok (.iconst 0, 1) := by decide +kernel
theorem dX6_next_32 : decode cX6_next 32 = .ok (.istore_n 1, 1) := by decide +kernel
theorem dX6_next_33 : decode cX6_next 33 = .ok (.iload_n 1, 1) := by decide +kernel
theorem dX6_next_34 : decode cX6_next 34 = .ok (.ifCond .eq 15, 3) := by decide +kernel
theorem dX6_next_37 : decode cX6_next 37 = .ok (.aload_n 0, 1) := by decide +kernel
theorem dX6_next_38 : decode cX6_next 38 = .ok (.getfield 9, 3) := by decide +kernel
theorem dX6_next_41 : decode cX6_next 41 = .ok (.aload_n 0, 1) := by decide +kernel
theorem dX6_next_42 : decode cX6_next 42 = .ok (.getfield 28, 3) := by decide +kernel
theorem dX6_next_45 : decode cX6_next 45 = .ok (.caload, 1) := by decide +kernel
theorem dX6_next_46 : decode cX6_next 46 = .ok (.goto 4, 3) := by decide +kernel
theorem dX6_next_49 : decode cX6_next 49 = .ok (.iconst (-1), 1) := by decide +kernel
theorem dX6_next_50 : decode cX6_next 50 = .ok (.ireturn, 1) := by decide +kernel
set_option maxRecDepth 20000 in
theorem ggX6_readBowing_X6_next : GoodIn wsX6_readBowing wsX6_next := goodIn_r _ [7, 1, 8, 9, 30, 31, 32, 33] (by decide +kernel) (by decide +kernel)
set_option maxRecDepth 20000 in
theorem gX6_readBowing_X6_next : GoodIn wsX6_readBowing (wsV RX6 38 RX6 yX6_next wsX6_next) := goodIn_app (goodIn_of _ (by decide +kernel)) ggX6_readBowing_X6_next
set_option maxRecDepth 20000 in
theorem ggX6_readBowing_X6_sideOf : GoodIn wsX6_readBowing wsX6_sideOf := goodIn_r _ [12] (by decide +kernel) (by decide +kernel)
set_option maxRecDepth 20000 in
theorem gX6_readBowing_X6_sideOf : GoodIn wsX6_readBowing (va_wsS RX6 42 yX6_sideOf wsX6_sideOf) := goodIn_app (goodIn_of _ (by decide +kernel)) ggX6_readBowing_X6_sideOf
set_option maxRecDepth 20000 in
theorem ggX6_readBowing_X6_readNumber : GoodIn wsX6_readBowing wsX6_readNumber := goodIn_r _ [16, 1, 3, 4, 5, 6, 7, 8, 9, 17, 18, 19, 30, 31, 32, 33] (by decide +kernel) (by decide +kernel)
set_option maxRecDepth 20000 in
theorem gX6_readBowing_X6_readNumber : GoodIn wsX6_readBowing (wsV RX6 46 RX6 yX6_readNumber wsX6_readNumber) := goodIn_app (goodIn_of _ (by decide +kernel)) ggX6_readBowing_X6_readNumber
set_option maxRecDepth 20000 in
theorem ggX6_readBowing_X4_append : GoodIn wsX6_readBowing wsX4_append := goodIn_r _ [24, 25, 26, 27, 28, 29, 34, 35, 36, 37, 38] (by decide +kernel) (by decide +kernel)
set_option maxRecDepth 20000 in
theorem gX6_readBowing_X4_append : GoodIn wsX6_readBowing (wsV RX6 50 RX4 yX4_append wsX4_append) := goodIn_app (goodIn_of _ (by decide +kernel)) ggX6_readBowing_X4_append
theorem dX6_readBowing_0 : decode cX6_readBowing 0 = .ok (.aload_n 0, 1) := by decide +kernel
theorem dX6_readBowing_1 : decode cX6_readBowing 1 = .ok (.invokevirtual 38, 3) := by decide +kernel
theorem dX6_readBowing_4 : decode cX6_readBowing 4 = .ok (.invokestatic 42, 3) := by decide +kernel
theorem dX6_readBowing_7 : decode cX6_readBowing 7 = .ok (.istore_n 1, 1) := by decide +kernel
theorem dX6_readBowing_8 : decode cX6_readBowing 8 = .ok (.iload_n 1, 1) := by decide +kernel
theorem dX6_readBowing_9 : decode cX6_readBowing 9 = .ok (.ifCond .ge 5, 3) := by decide +kernel
theorem dX6_readBowing_12 : decode cX6_readBowing 12 = .ok (.iconst 0, 1) := by decide +kernel
theorem dX6_readBowing_13 : decode cX6_readBowing 13 = .ok (.ireturn, 1) := by decide +kernel
theorem dX6_readBowing_14 : decode cX6_readBowing 14 = .ok (.aload_n 0, 1) := by decide +kernel
theorem dX6_readBowing_15 : decode cX6_readBowing 15 = .ok (.dup, 1) := by decide +kernel
theorem dX6_readBowing_16 : decode cX6_readBowing 16 = .ok (.getfield 28, 3) := by decide +kernel
theorem dX6_readBowing_19 : decode cX6_readBowing 19 = .ok (.iconst 1, 1) := by decide +kernel
theorem dX6_readBowing_20 : decode cX6_readBowing 20 = .ok (.iadd, 1) := by decide +kernel
theorem dX6_readBowing_21 : decode cX6_readBowing 21 = .ok (.putfield 28, 3) := by decide +kernel
theorem dX6_readBowing_24 : decode cX6_readBowing 24 = .ok (.aload_n 0, 1) := by decide +kernel
theorem dX6_readBowing_25 : decode cX6_readBowing 25 = .ok (.iconst 0, 1) := by decide +kernel
theorem dX6_readBowing_26 : decode cX6_readBowing 26 = .ok (.bipush 11, 2) := by decide +kernel
theorem dX6_readBowing_28 : decode cX6_readBowing 28 = .ok (.invokevirtual 46, 3) := by decide +kernel
theorem dX6_readBowing_31 : decode cX6_readBowing 31 = .ok (.istore_n 2, 1) := by decide +kernel
theorem dX6_readBowing_32 : decode cX6_readBowing 32 = .ok (.iload_n 2, 1) := by decide +kernel
theorem dX6_readBowing_33 : decode cX6_readBowing 33 = .ok (.iconst (-1), 1) := by decide +kernel
theorem dX6_readBowing_34 : decode cX6_readBowing 34 = .ok (.if_icmp .ne 5, 3) := by decide +kernel
theorem dX6_readBowing_37 : decode cX6_readBowing 37 = .ok (.iconst 0, 1) := by decide +kernel
theorem dX6_readBowing_38 : decode cX6_readBowing 38 = .ok (.ireturn, 1) := by decide +kernel
theorem dX6_readBowing_39 : decode cX6_readBowing 39 = .ok (.iconst 1, 1) := by decide +kernel
theorem dX6_readBowing_40 : decode cX6_readBowing 40 = .ok (.istore_n 3, 1) := by decide +kernel
theorem dX6_readBowing_41 : decode cX6_readBowing 41 = .ok (.aload_n 0, 1) := by decide +kernel
theorem dX6_readBowing_42 : decode cX6_readBowing 42 = .ok (.invokevirtual 38, 3) := by decide +kernel
theorem dX6_readBowing_45 : decode cX6_readBowing 45 = .ok (.bipush 120, 2) := by decide +kernel
theorem dX6_readBowing_47 : decode cX6_readBowing 47 = .ok (.if_icmp .ne 21, 3) := by decide +kernel
theorem dX6_readBowing_50 : decode cX6_readBowing 50 = .ok (.aload_n 0, 1) := by decide +kernel
theorem dX6_readBowing_51 : decode cX6_readBowing 51 = .ok (.dup, 1) := by decide +kernel
theorem dX6_readBowing_52 : decode cX6_readBowing 52 = .ok (.getfield 28, 3) := by decide +kernel
theorem dX6_readBowing_55 : decode cX6_readBowing 55 = .ok (.iconst 1, 1) := by decide +kernel
theorem dX6_readBowing_56 : decode cX6_readBowing 56 = .ok (.iadd, 1) := by decide +kernel
theorem dX6_readBowing_57 : decode cX6_readBowing 57 = .ok (.putfield 28, 3) := by decide +kernel
theorem dX6_readBowing_60 : decode cX6_readBowing 60 = .ok (.aload_n 0, 1) := by decide +kernel
theorem dX6_readBowing_61 : decode cX6_readBowing 61 = .ok (.iconst 1, 1) := by decide +kernel
theorem dX6_readBowing_62 : decode cX6_readBowing 62 = .ok (.bipush 20, 2) := by decide +kernel
theorem dX6_readBowing_64 : decode cX6_readBowing 64 = .ok (.invokevirtual 46, 3) := by decide +kernel
theorem dX6_readBowing_67 : decode cX6_readBowing 67 = .ok (.istore_n 3, 1) := by decide +kernel
theorem dX6_readBowing_68 : decode cX6_readBowing 68 = .ok (.iload_n 3, 1) := by decide +kernel
theorem dX6_readBowing_69 : decode cX6_readBowing 69 = .ok (.iconst (-1), 1) := by decide +kernel
theorem dX6_readBowing_70 : decode cX6_readBowing 70 = .ok (.if_icmp .ne 5, 3) := by decide +kernel
theorem dX6_readBowing_73 : decode cX6_readBowing 73 = .ok (.iconst 0, 1) := by decide +kernel
theorem dX6_readBowing_74 : decode cX6_readBowing 74 = .ok (.ireturn, 1) := by decide +kernel
theorem dX6_readBowing_75 : decode cX6_readBowing 75 = .ok (.aload_n 0, 1) := by decide +kernel
theorem dX6_readBowing_76 : decode cX6_readBowing 76 = .ok (.getfield 24, 3) := by decide +kernel
theorem dX6_readBowing_79 : decode cX6_readBowing 79 = .ok (.iload_n 1, 1) := by decide +kernel
theorem dX6_readBowing_80 : decode cX6_readBowing 80 = .ok (.iload_n 2, 1) := by decide +kernel
theorem dX6_readBowing_81 : decode cX6_readBowing 81 = .ok (.iload_n 3, 1) := by decide +kernel
theorem dX6_readBowing_82 : decode cX6_readBowing 82 = .ok (.invokevirtual 50, 3) := by decide +kernel
theorem dX6_readBowing_85 : decode cX6_readBowing 85 = .ok (.iconst 1, 1) := by decide +kernel
theorem dX6_readBowing_86 : decode cX6_readBowing 86 = .ok (.ireturn, 1) := by decide +kernel
theorem dX6_sideOf_0 : decode cX6_sideOf 0 = .ok (.iload_n 0, 1) := by decide +kernel
theorem dX6_sideOf_1 : decode cX6_sideOf 1 = .ok (.lookupswitch 51 #[(98, 47), (108, 49), (114, 45), (116, 43)], 43) := by decide +kernel
theorem dX6_sideOf_44 : decode cX6_sideOf 44 = .ok (.iconst 0, 1) := by decide +kernel
theorem dX6_sideOf_45 : decode cX6_sideOf 45 = .ok (.ireturn, 1) := by decide +kernel
theorem dX6_sideOf_46 : decode cX6_sideOf 46 = .ok (.iconst 1, 1) := by decide +kernel
theorem dX6_sideOf_47 : decode cX6_sideOf 47 = .ok (.ireturn, 1) := by decide +kernel
theorem dX6_sideOf_48 : decode cX6_sideOf 48 = .ok (.iconst 2, 1) := by decide +kernel
theorem dX6_sideOf_49 : decode cX6_sideOf 49 = .ok (.ireturn, 1) := by decide +kernel
theorem dX6_sideOf_50 : decode cX6_sideOf 50 = .ok (.iconst 3, 1) := by decide +kernel
theorem dX6_sideOf_51 : decode cX6_sideOf 51 = .ok (.ireturn, 1) := by decide +kernel
theorem dX6_sideOf_52 : decode cX6_sideOf 52 = .ok (.iconst (-1), 1) := by decide +kernel
theorem dX6_sideOf_53 : decode cX6_sideOf 53 = .ok (.ireturn, 1) := by decide +kernel
theorem dX6_digitOf_0 : decode cX6_digitOf 0 = .ok (.iload_n 0, 1) := by decide +kernel
theorem dX6_digitOf_1 : decode cX6_digitOf 1 = .ok (.bipush 48, 2) := by decide +kernel
theorem dX6_digitOf_3 : decode cX6_digitOf 3 = .ok (.if_icmp .lt 16, 3) := by decide +kernel
theorem dX6_digitOf_6 : decode cX6_digitOf 6 = .ok (.iload_n 0, 1) := by decide +kernel
theorem dX6_digitOf_7 : decode cX6_digitOf 7 = .ok (.bipush 57, 2) := by decide +kernel
theorem dX6_digitOf_9 : decode cX6_digitOf 9 = .ok (.if_icmp .gt 10, 3) := by decide +kernel
theorem dX6_digitOf_12 : decode cX6_digitOf 12 = .ok (.iload_n 0, 1) := by decide +kernel
theorem dX6_digitOf_13 : decode cX6_digitOf 13 = .ok (.bipush 48, 2) := by decide +kernel
theorem dX6_digitOf_15 : decode cX6_digitOf 15 = .ok (.isub, 1) := by decide +kernel
theorem dX6_digitOf_16 : decode cX6_digitOf 16 = .ok (.goto 4, 3) := by decide +kernel
theorem dX6_digitOf_19 : decode cX6_digitOf 19 = .ok (.iconst (-1), 1) := by decide +kernel
theorem dX6_digitOf_20 : decode cX6_digitOf 20 = .ok (.ireturn, 1) := by decide +kernel
set_option maxRecDepth 20000 in
theorem ggX6_readNumber_X6_next : GoodIn wsX6_readNumber wsX6_next := goodIn_r _ [6, 1, 7, 8, 12, 13, 14, 15] (by decide +kernel) (by decide +kernel)
set_option maxRecDepth 20000 in
theorem gX6_readNumber_X6_next : GoodIn wsX6_readNumber (wsV RX6 38 RX6 yX6_next wsX6_next) := goodIn_app (goodIn_of _ (by decide +kernel)) ggX6_readNumber_X6_next
set_option maxRecDepth 20000 in
theorem ggX6_readNumber_X6_digitOf : GoodIn wsX6_readNumber wsX6_digitOf := goodIn_r _ [11] (by decide +kernel) (by decide +kernel)
set_option maxRecDepth 20000 in
theorem gX6_readNumber_X6_digitOf : GoodIn wsX6_readNumber (va_wsS RX6 54 yX6_digitOf wsX6_digitOf) := goodIn_app (goodIn_of _ (by decide +kernel)) ggX6_readNumber_X6_digitOf
theorem dX6_readNumber_0 : decode cX6_readNumber 0 = .ok (.aload_n 0, 1) := by decide +kernel
theorem dX6_readNumber_1 : decode cX6_readNumber 1 = .ok (.invokevirtual 38, 3) := by decide +kernel
theorem dX6_readNumber_4 : decode cX6_readNumber 4 = .ok (.invokestatic 54, 3) := by decide +kernel
theorem dX6_readNumber_7 : decode cX6_readNumber 7 = .ok (.istore_n 3, 1) := by decide +kernel
theorem dX6_readNumber_8 : decode cX6_readNumber 8 = .ok (.iload_n 3, 1) := by decide +kernel
theorem dX6_readNumber_9 : decode cX6_readNumber 9 = .ok (.iconst (-1), 1) := by decide +kernel
theorem dX6_readNumber_10 : decode cX6_readNumber 10 = .ok (.if_icmp .eq 8, 3) := by decide +kernel
theorem dX6_readNumber_13 : decode cX6_readNumber 13 = .ok (.iload_n 3, 1) := by decide +kernel
theorem dX6_readNumber_14 : decode cX6_readNumber 14 = .ok (.iload_n 1, 1) := by decide +kernel
theorem dX6_readNumber_15 : decode cX6_readNumber 15 = .ok (.if_icmp .ge 5, 3) := by decide +kernel
theorem dX6_readNumber_18 : decode cX6_readNumber 18 = .ok (.iconst (-1), 1) := by decide +kernel
theorem dX6_readNumber_19 : decode cX6_readNumber 19 = .ok (.ireturn, 1) := by decide +kernel
theorem dX6_readNumber_20 : decode cX6_readNumber 20 = .ok (.aload_n 0, 1) := by decide +kernel
theorem dX6_readNumber_21 : decode cX6_readNumber 21 = .ok (.dup, 1) := by decide +kernel
theorem dX6_readNumber_22 : decode cX6_readNumber 22 = .ok (.getfield 28, 3) := by decide +kernel
theorem dX6_readNumber_25 : decode cX6_readNumber 25 = .ok (.iconst 1, 1) := by decide +kernel
theorem dX6_readNumber_26 : decode cX6_readNumber 26 = .ok (.iadd, 1) := by decide +kernel
theorem dX6_readNumber_27 : decode cX6_readNumber 27 = .ok (.putfield 28, 3) := by decide +kernel
theorem dX6_readNumber_30 : decode cX6_readNumber 30 = .ok (.iconst 1, 1) := by decide +kernel
theorem dX6_readNumber_31 : decode cX6_readNumber 31 = .ok (.istore 4, 2) := by decide +kernel
theorem dX6_readNumber_33 : decode cX6_readNumber 33 = .ok (.iload 4, 2) := by decide +kernel
theorem dX6_readNumber_35 : decode cX6_readNumber 35 = .ok (.bipush 60, 2) := by decide +kernel
theorem dX6_readNumber_37 : decode cX6_readNumber 37 = .ok (.if_icmp .ge 59, 3) := by decide +kernel
theorem dX6_readNumber_40 : decode cX6_readNumber 40 = .ok (.iload_n 3, 1) := by decide +kernel
theorem dX6_readNumber_41 : decode cX6_readNumber 41 = .ok (.ifCond .le 55, 3) := by decide +kernel
theorem dX6_readNumber_44 : decode cX6_readNumber 44 = .ok (.aload_n 0, 1) := by decide +kernel
theorem dX6_readNumber_45 : decode cX6_readNumber 45 = .ok (.invokevirtual 38, 3) := by decide +kernel
theorem dX6_readNumber_48 : decode cX6_readNumber 48 = .ok (.invokestatic 54, 3) := by decide +kernel
theorem dX6_readNumber_51 : decode cX6_readNumber 51 = .ok (.istore 5, 2) := by decide +kernel
theorem dX6_readNumber_53 : decode cX6_readNumber 53 = .ok (.iload 5, 2) := by decide +kernel
theorem dX6_readNumber_55 : decode cX6_readNumber 55 = .ok (.iconst (-1), 1) := by decide +kernel
theorem dX6_readNumber_56 : decode cX6_readNumber 56 = .ok (.if_icmp .eq 14, 3) := by decide +kernel
theorem dX6_readNumber_59 : decode cX6_readNumber 59 = .ok (.iload_n 3, 1) := by decide +kernel
theorem dX6_readNumber_60 : decode cX6_readNumber 60 = .ok (.bipush 10, 2) := by decide +kernel
theorem dX6_readNumber_62 : decode cX6_readNumber 62 = .ok (.imul, 1) := by decide +kernel
theorem dX6_readNumber_63 : decode cX6_readNumber 63 = .ok (.iload 5, 2) := by decide +kernel
theorem dX6_readNumber_65 : decode cX6_readNumber 65 = .ok (.iadd, 1) := by decide +kernel
theorem dX6_readNumber_66 : decode cX6_readNumber 66 = .ok (.iload_n 2, 1) := by decide +kernel
theorem dX6_readNumber_67 : decode cX6_readNumber 67 = .ok (.if_icmp .le 5, 3) := by decide +kernel
theorem dX6_readNumber_70 : decode cX6_readNumber 70 = .ok (.iload_n 3, 1) := by decide +kernel
theorem dX6_readNumber_71 : decode cX6_readNumber 71 = .ok (.ireturn, 1) := by decide +kernel
theorem dX6_readNumber_72 : decode cX6_readNumber 72 = .ok (.iload_n 3, 1) := by decide +kernel
theorem dX6_readNumber_73 : decode cX6_readNumber 73 = .ok (.bipush 10, 2) := by decide +kernel
theorem dX6_readNumber_75 : decode cX6_readNumber 75 = .ok (.imul, 1) := by decide +kernel
theorem dX6_readNumber_76 : decode cX6_readNumber 76 = .ok (.iload 5, 2) := by decide +kernel
theorem dX6_readNumber_78 : decode cX6_readNumber 78 = .ok (.iadd, 1) := by decide +kernel
theorem dX6_readNumber_79 : decode cX6_readNumber 79 = .ok (.istore_n 3, 1) := by decide +kernel
theorem dX6_readNumber_80 : decode cX6_readNumber 80 = .ok (.aload_n 0, 1) := by decide +kernel
theorem dX6_readNumber_81 : decode cX6_readNumber 81 = .ok (.dup, 1) := by decide +kernel
theorem dX6_readNumber_82 : decode cX6_readNumber 82 = .ok (.getfield 28, 3) := by decide +kernel
theorem dX6_readNumber_85 : decode cX6_readNumber 85 = .ok (.iconst 1, 1) := by decide +kernel
theorem dX6_readNumber_86 : decode cX6_readNumber 86 = .ok (.iadd, 1) := by decide +kernel
theorem dX6_readNumber_87 : decode cX6_readNumber 87 = .ok (.putfield 28, 3) := by decide +kernel
theorem dX6_readNumber_90 : decode cX6_readNumber 90 = .ok (.iinc 4 1, 3) := by decide +kernel
theorem dX6_readNumber_93 : decode cX6_readNumber 93 = .ok (.goto (-60), 3) := by decide +kernel
theorem dX6_readNumber_96 : decode cX6_readNumber 96 = .ok (.iload_n 3, 1) := by decide +kernel
theorem dX6_readNumber_97 : decode cX6_readNumber 97 = .ok (.ireturn, 1) := by decide +kernel
set_option maxRecDepth 20000 in
theorem ggX7_init_X7_waveHeight : GoodIn wsX7_init wsX7_waveHeight := goodIn_r _ [13] (by decide +kernel) (by decide +kernel)
set_option maxRecDepth 20000 in
theorem gX7_init_X7_waveHeight : GoodIn wsX7_init (va_wsS RX7 28 yX7_waveHeight wsX7_waveHeight) := goodIn_app (goodIn_of _ (by decide +kernel)) ggX7_init_X7_waveHeight
set_option maxRecDepth 20000 in
theorem ggX7_init_X7_listWaysOf : GoodIn wsX7_init wsX7_listWaysOf := goodIn_r _ [17, 9, 5, 6, 7, 18, 19, 20, 21, 22] (by decide +kernel) (by decide +kernel)
set_option maxRecDepth 20000 in
theorem gX7_init_X7_listWaysOf : GoodIn wsX7_init (wsV RX7 32 RX7 yX7_listWaysOf wsX7_listWaysOf) := goodIn_app (goodIn_of _ (by decide +kernel)) ggX7_init_X7_listWaysOf
theorem dX7_init_0 : decode cX7_init 0 = .ok (.aload_n 0, 1) := by decide +kernel
theorem dX7_init_1 : decode cX7_init 1 = .ok (.invokespecial 3, 3) := by decide +kernel
theorem dX7_init_4 : decode cX7_init 4 = .ok (.aload_n 0, 1) := by decide +kernel
theorem dX7_init_5 : decode cX7_init 5 = .ok (.bipush 48, 2) := by decide +kernel
theorem dX7_init_7 : decode cX7_init 7 = .ok (.newarray .int, 2) := by decide +kernel
theorem dX7_init_9 : decode cX7_init 9 = .ok (.putfield 9, 3) := by decide +kernel
theorem dX7_init_12 : decode cX7_init 12 = .ok (.aload_n 0, 1) := by decide +kernel
theorem dX7_init_13 : decode cX7_init 13 = .ok (.bipush 48, 2) := by decide +kernel
theorem dX7_init_15 : decode cX7_init 15 = .ok (.newarray .int, 2) := by decide +kernel
theorem dX7_init_17 : decode cX7_init 17 = .ok (.putfield 15, 3) := by decide +kernel
theorem dX7_init_20 : decode cX7_init 20 = .ok (.aload_n 0, 1) := by decide +kernel
theorem dX7_init_21 : decode cX7_init 21 = .ok (.bipush 48, 2) := by decide +kernel
theorem dX7_init_23 : decode cX7_init 23 = .ok (.newarray .int, 2) := by decide +kernel
theorem dX7_init_25 : decode cX7_init 25 = .ok (.putfield 18, 3) := by decide +kernel
theorem dX7_init_28 : decode cX7_init 28 = .ok (.aload_n 0, 1) := by decide +kernel
theorem dX7_init_29 : decode cX7_init 29 = .ok (.bipush 84, 2) := by decide +kernel
theorem dX7_init_31 : decode cX7_init 31 = .ok (.newarray .int, 2) := by decide +kernel
theorem dX7_init_33 : decode cX7_init 33 = .ok (.putfield 21, 3) := by decide +kernel
theorem dX7_init_36 : decode cX7_init 36 = .ok (.aload_n 0, 1) := by decide +kernel
theorem dX7_init_37 : decode cX7_init 37 = .ok (.iconst 0, 1) := by decide +kernel
theorem dX7_init_38 : decode cX7_init 38 = .ok (.putfield 24, 3) := by decide +kernel
theorem dX7_init_41 : decode cX7_init 41 = .ok (.iconst 0, 1) := by decide +kernel
theorem dX7_init_42 : decode cX7_init 42 = .ok (.istore_n 1, 1) := by decide +kernel
theorem dX7_init_43 : decode cX7_init 43 = .ok (.iload_n 1, 1) := by decide +kernel
theorem dX7_init_44 : decode cX7_init 44 = .ok (.bipush 7, 2) := by decide +kernel
theorem dX7_init_46 : decode cX7_init 46 = .ok (.if_icmp .ge 39, 3) := by decide +kernel
theorem dX7_init_49 : decode cX7_init 49 = .ok (.iconst 0, 1) := by decide +kernel
theorem dX7_init_50 : decode cX7_init 50 = .ok (.istore_n 2, 1) := by decide +kernel
theorem dX7_init_51 : decode cX7_init 51 = .ok (.iload_n 2, 1) := by decide +kernel
theorem dX7_init_52 : decode cX7_init 52 = .ok (.bipush 12, 2) := by decide +kernel
theorem dX7_init_54 : decode cX7_init 54 = .ok (.if_icmp .ge 25, 3) := by decide +kernel
theorem dX7_init_57 : decode cX7_init 57 = .ok (.aload_n 0, 1) := by decide +kernel
theorem dX7_init_58 : decode cX7_init 58 = .ok (.getfield 21, 3) := by decide +kernel
theorem dX7_init_61 : decode cX7_init 61 = .ok (.iload_n 1, 1) := by decide +kernel
theorem dX7_init_62 : decode cX7_init 62 = .ok (.bipush 12, 2) := by decide +kernel
theorem dX7_init_64 : decode cX7_init 64 = .ok (.imul, 1) := by decide +kernel
theorem dX7_init_65 : decode cX7_init 65 = .ok (.iload_n 2, 1) := by decide +kernel
theorem dX7_init_66 : decode cX7_init 66 = .ok (.iadd, 1) := by decide +kernel
theorem dX7_init_67 : decode cX7_init 67 = .ok (.iload_n 1, 1) := by decide +kernel
theorem dX7_init_68 : decode cX7_init 68 = .ok (.iload_n 2, 1) := by decide +kernel
theorem dX7_init_69 : decode cX7_init 69 = .ok (.invokestatic 28, 3) := by decide +kernel
theorem dX7_init_72 : decode cX7_init 72 = .ok (.iastore, 1) := by decide +kernel
theorem dX7_init_73 : decode cX7_init 73 = .ok (.iinc 2 1, 3) := by decide +kernel
theorem dX7_init_76 : decode cX7_init 76 = .ok (.goto (-25), 3) := by decide +kernel
theorem dX7_init_79 : decode cX7_init 79 = .ok (.iinc 1 1, 3) := by decide +kernel
theorem dX7_init_82 : decode cX7_init 82 = .ok (.goto (-39), 3) := by decide +kernel
theorem dX7_init_85 : decode cX7_init 85 = .ok (.bipush 72, 2) := by decide +kernel
theorem dX7_init_87 : decode cX7_init 87 = .ok (.istore_n 1, 1) := by decide +kernel
theorem dX7_init_88 : decode cX7_init 88 = .ok (.iconst 1, 1) := by decide +kernel
theorem dX7_init_89 : decode cX7_init 89 = .ok (.istore_n 2, 1) := by decide +kernel
theorem dX7_init_90 : decode cX7_init 90 = .ok (.iload_n 2, 1) := by decide +kernel
theorem dX7_init_91 : decode cX7_init 91 = .ok (.iload_n 1, 1) := by decide +kernel
theorem dX7_init_92 : decode cX7_init 92 = .ok (.if_icmp .gt 21, 3) := by decide +kernel
theorem dX7_init_95 : decode cX7_init 95 = .ok (.aload_n 0, 1) := by decide +kernel
theorem dX7_init_96 : decode cX7_init 96 = .ok (.iload_n 2, 1) := by decide +kernel
theorem dX7_init_97 : decode cX7_init 97 = .ok (.iconst 0, 1) := by decide +kernel
theorem dX7_init_98 : decode cX7_init 98 = .ok (.invokevirtual 32, 3) := by decide +kernel
theorem dX7_init_101 : decode cX7_init 101 = .ok (.aload_n 0, 1) := by decide +kernel
theorem dX7_init_102 : decode cX7_init 102 = .ok (.iload_n 2, 1) := by decide +kernel
theorem dX7_init_103 : decode cX7_init 103 = .ok (.iconst 1, 1) := by decide +kernel
theorem dX7_init_104 : decode cX7_init 104 = .ok (.invokevirtual 32, 3) := by decide +kernel
theorem dX7_init_107 : decode cX7_init 107 = .ok (.iinc 2 1, 3) := by decide +kernel
theorem dX7_init_110 : decode cX7_init 110 = .ok (.goto (-20), 3) := by decide +kernel
theorem dX7_init_113 : decode cX7_init 113 = .ok (.return_, 1) := by decide +kernel
theorem dX7_waveHeight_0 : decode cX7_waveHeight 0 = .ok (.sipush 200, 3) := by decide +kernel
theorem dX7_waveHeight_3 : decode cX7_waveHeight 3 = .ok (.iload_n 0, 1) := by decide +kernel
theorem dX7_waveHeight_4 : decode cX7_waveHeight 4 = .ok (.imul, 1) := by decide +kernel
theorem dX7_waveHeight_5 : decode cX7_waveHeight 5 = .ok (.iload_n 1, 1) := by decide +kernel
theorem dX7_waveHeight_6 : decode cX7_waveHeight 6 = .ok (.imul, 1) := by decide +kernel
theorem dX7_waveHeight_7 : decode cX7_waveHeight 7 = .ok (.bipush 11, 2) := by decide +kernel
theorem dX7_waveHeight_9 : decode cX7_waveHeight 9 = .ok (.idiv, 1) := by decide +kernel
theorem dX7_waveHeight_10 : decode cX7_waveHeight 10 = .ok (.sipush 400, 3) := by decide +kernel
theorem dX7_waveHeight_13 : decode cX7_waveHeight 13 = .ok (.irem, 1) := by decide +kernel
theorem dX7_waveHeight_14 : decode cX7_waveHeight 14 = .ok (.istore_n 2, 1) := by decide +kernel
theorem dX7_waveHeight_15 : decode cX7_waveHeight 15 = .ok (.iload_n 2, 1) := by decide +kernel
theorem dX7_waveHeight_16 : decode cX7_waveHeight 16 = .ok (.sipush 200, 3) := by decide +kernel
theorem dX7_waveHeight_19 : decode cX7_waveHeight 19 = .ok (.if_icmp .gt 10, 3) := by decide +kernel
theorem dX7_waveHeight_22 : decode cX7_waveHeight 22 = .ok (.bipush 100, 2) := by decide +kernel
theorem dX7_waveHeight_24 : decode cX7_waveHeight 24 = .ok (.iload_n 2, 1) := by decide +kernel
theorem dX7_waveHeight_25 : decode cX7_waveHeight 25 = .ok (.isub, 1) := by decide +kernel
theorem dX7_waveHeight_26 : decode cX7_waveHeight 26 = .ok (.goto 8, 3) := by decide +kernel
theorem dX7_waveHeight_29 : decode cX7_waveHeight 29 = .ok (.iload_n 2, 1) := by decide +kernel
theorem dX7_waveHeight_30 : decode cX7_waveHeight 30 = .ok (.sipush 300, 3) := by decide +kernel
theorem dX7_waveHeight_33 : decode cX7_waveHeight 33 = .ok (.isub, 1) := by decide +kernel
theorem dX7_waveHeight_34 : decode cX7_waveHeight 34 = .ok (.ireturn, 1) := by decide +kernel
theorem dX7_listWaysOf_0 : decode cX7_listWaysOf 0 = .ok (.iconst 0, 1) := by decide +kernel
theorem dX7_listWaysOf_1 : decode cX7_listWaysOf 1 = .ok (.istore_n 3, 1) := by decide +kernel
theorem dX7_listWaysOf_2 : decode cX7_listWaysOf 2 = .ok (.iload_n 3, 1) := by decide +kernel
theorem dX7_listWaysOf_3 : decode cX7_listWaysOf 3 = .ok (.bipush 7, 2) := by decide +kernel
theorem dX7_listWaysOf_5 : decode cX7_listWaysOf 5 = .ok (.if_icmp .ge 90, 3) := by decide +kernel
theorem dX7_listWaysOf_8 : decode cX7_listWaysOf 8 = .ok (.iload_n 3, 1) := by decide +kernel
theorem dX7_listWaysOf_9 : decode cX7_listWaysOf 9 = .ok (.iload_n 2, 1) := by decide +kernel
theorem dX7_listWaysOf_10 : decode cX7_listWaysOf 10 = .ok (.iadd, 1) := by decide +kernel
theorem dX7_listWaysOf_11 : decode cX7_listWaysOf 11 = .ok (.istore 4, 2) := by decide +kernel
theorem dX7_listWaysOf_13 : decode cX7_listWaysOf 13 = .ok (.iload 4, 2) := by decide +kernel
theorem dX7_listWaysOf_15 : decode cX7_listWaysOf 15 = .ok (.bipush 7, 2) := by decide +kernel
theorem dX7_listWaysOf_17 : decode cX7_listWaysOf 17 = .ok (.if_icmp .ge 72, 3) := by decide +kernel
theorem dX7_listWaysOf_20 : decode cX7_listWaysOf 20 = .ok (.iload_n 3, 1) := by decide +kernel
theorem dX7_listWaysOf_21 : decode cX7_listWaysOf 21 = .ok (.iload_n 3, 1) := by decide +kernel
theorem dX7_listWaysOf_22 : decode cX7_listWaysOf 22 = .ok (.imul, 1) := by decide +kernel
theorem dX7_listWaysOf_23 : decode cX7_listWaysOf 23 = .ok (.iload 4, 2) := by decide +kernel
theorem dX7_listWaysOf_25 : decode cX7_listWaysOf 25 = .ok (.iload 4, 2) := by decide +kernel
theorem dX7_listWaysOf_27 : decode cX7_listWaysOf 27 = .ok (.imul, 1) := by decide +kernel
theorem dX7_listWaysOf_28 : decode cX7_listWaysOf 28 = .ok (.iadd, 1) := by decide +kernel
theorem dX7_listWaysOf_29 : decode cX7_listWaysOf 29 = .ok (.iload_n 1, 1) := by decide +kernel
theorem dX7_listWaysOf_30 : decode cX7_listWaysOf 30 = .ok (.if_icmp .ne 53, 3) := by decide +kernel
theorem dX7_listWaysOf_33 : decode cX7_listWaysOf 33 = .ok (.aload_n 0, 1) := by decide +kernel
theorem dX7_listWaysOf_34 : decode cX7_listWaysOf 34 = .ok (.getfield 24, 3) := by decide +kernel
theorem dX7_listWaysOf_37 : decode cX7_listWaysOf 37 = .ok (.bipush 48, 2) := by decide +kernel
theorem dX7_listWaysOf_39 : decode cX7_listWaysOf 39 = .ok (.if_icmp .ge 44, 3) := by decide +kernel
theorem dX7_listWaysOf_42 : decode cX7_listWaysOf 42 = .ok (.aload_n 0, 1) := by decide +kernel
theorem dX7_listWaysOf_43 : decode cX7_listWaysOf 43 = .ok (.getfield 9, 3) := by decide +kernel
theorem dX7_listWaysOf_46 : decode cX7_listWaysOf 46 = .ok (.aload_n 0, 1) := by decide +kernel
theorem dX7_listWaysOf_47 : decode cX7_listWaysOf 47 = .ok (.getfield 24, 3) := by decide +kernel
theorem dX7_listWaysOf_50 : decode cX7_listWaysOf 50 = .ok (.iload_n 3, 1) := by decide +kernel
theorem dX7_listWaysOf_51 : decode cX7_listWaysOf 51 = .ok (.iastore, 1) := by decide +kernel
theorem dX7_listWaysOf_52 : decode cX7_listWaysOf 52 = .ok (.aload_n 0, 1) := by decide +kernel
theorem dX7_listWaysOf_53 : decode cX7_listWaysOf 53 = .ok (.getfield 15, 3) := by decide +kernel
theorem dX7_listWaysOf_56 : decode cX7_listWaysOf 56 = .ok (.aload_n 0, 1) := by decide +kernel
theorem dX7_listWaysOf_57 : decode cX7_listWaysOf 57 = .ok (.getfield 24, 3) := by decide +kernel
theorem dX7_listWaysOf_60 : decode cX7_listWaysOf 60 = .ok (.iload 4, 2) := by decide +kernel
theorem dX7_listWaysOf_62 : decode cX7_listWaysOf 62 = .ok (.iastore, 1) := by decide +kernel
theorem dX7_listWaysOf_63 : decode cX7_listWaysOf 63 = .ok (.aload_n 0, 1) := by decide +kernel
theorem dX7_listWaysOf_64 : decode cX7_listWaysOf 64 = .ok (.getfield 18, 3) := by decide +kernel
theorem dX7_listWaysOf_67 : decode cX7_listWaysOf 67 = .ok (.aload_n 0, 1) := by decide +kernel
theorem dX7_listWaysOf_68 : decode cX7_listWaysOf 68 = .ok (.getfield 24, 3) := by decide +kernel
theorem dX7_listWaysOf_71 : decode cX7_listWaysOf 71 = .ok (.iload_n 2, 1) := by decide +kernel
theorem dX7_listWaysOf_72 : decode cX7_listWaysOf 72 = .ok (.iastore, 1) := by decide +kernel
theorem dX7_listWaysOf_73 : decode cX7_listWaysOf 73 = .ok (.aload_n 0, 1) := by decide +kernel
theorem dX7_listWaysOf_74 : decode cX7_listWaysOf 74 = .ok (.dup, 1) := by decide +kernel
theorem dX7_listWaysOf_75 : decode cX7_listWaysOf 75 = .ok (.getfield 24, 3) := by decide +kernel
theorem dX7_listWaysOf_78 : decode cX7_listWaysOf 78 = .ok (.iconst 1, 1) := by decide +kernel
theorem dX7_listWaysOf_79 : decode cX7_listWaysOf 79 = .ok (.iadd, 1) := by decide +kernel
theorem dX7_listWaysOf_80 : decode cX7_listWaysOf 80 = .ok (.putfield 24, 3) := by decide +kernel
theorem dX7_listWaysOf_83 : decode cX7_listWaysOf 83 = .ok (.iinc 4 1, 3) := by decide +kernel
theorem dX7_listWaysOf_86 : decode cX7_listWaysOf 86 = .ok (.goto (-73), 3) := by decide +kernel
theorem dX7_listWaysOf_89 : decode cX7_listWaysOf 89 = .ok (.iinc 3 1, 3) := by decide +kernel
theorem dX7_listWaysOf_92 : decode cX7_listWaysOf 92 = .ok (.goto (-90), 3) := by decide +kernel
theorem dX7_listWaysOf_95 : decode cX7_listWaysOf 95 = .ok (.return_, 1) := by decide +kernel
set_option maxRecDepth 20000 in
theorem ggX7_noteOf_X8_isWay : GoodIn wsX7_noteOf wsX8_isWay := goodIn_r _ [6] (by decide +kernel) (by decide +kernel)
set_option maxRecDepth 20000 in
theorem gX7_noteOf_X8_isWay_n36 : GoodIn wsX7_noteOf (wsX8_isWay) := ggX7_noteOf_X8_isWay
theorem dX7_noteOf_0 : decode cX7_noteOf 0 = .ok (.iload_n 1, 1) := by decide +kernel
theorem dX7_noteOf_1 : decode cX7_noteOf 1 = .ok (.invokestatic 36, 3) := by decide +kernel
theorem dX7_noteOf_4 : decode cX7_noteOf 4 = .ok (.ifCond .ne 5, 3) := by decide +kernel
theorem dX7_noteOf_7 : decode cX7_noteOf 7 = .ok (.iconst 0, 1) := by decide +kernel
theorem dX7_noteOf_8 : decode cX7_noteOf 8 = .ok (.ireturn, 1) := by decide +kernel
theorem dX7_noteOf_9 : decode cX7_noteOf 9 = .ok (.bipush 10, 2) := by decide +kernel
theorem dX7_noteOf_11 : decode cX7_noteOf 11 = .ok (.aload_n 0, 1) := by decide +kernel
theorem dX7_noteOf_12 : decode cX7_noteOf 12 = .ok (.getfield 9, 3) := by decide +kernel
theorem dX7_noteOf_15 : decode cX7_noteOf 15 = .ok (.iload_n 1, 1) := by decide +kernel
theorem dX7_noteOf_16 : decode cX7_noteOf 16 = .ok (.iaload, 1) := by decide +kernel
theorem dX7_noteOf_17 : decode cX7_noteOf 17 = .ok (.aload_n 0, 1) := by decide +kernel
theorem dX7_noteOf_18 : decode cX7_noteOf 18 = .ok (.getfield 9, 3) := by decide +kernel
theorem dX7_noteOf_21 : decode cX7_noteOf 21 = .ok (.iload_n 1, 1) := by decide +kernel
theorem dX7_noteOf_22 : decode cX7_noteOf 22 = .ok (.iaload, 1) := by decide +kernel
theorem dX7_noteOf_23 : decode cX7_noteOf 23 = .ok (.imul, 1) := by decide +kernel
theorem dX7_noteOf_24 : decode cX7_noteOf 24 = .ok (.aload_n 0, 1) := by decide +kernel
theorem dX7_noteOf_25 : decode cX7_noteOf 25 = .ok (.getfield 15, 3) := by decide +kernel
theorem dX7_noteOf_28 : decode cX7_noteOf 28 = .ok (.iload_n 1, 1) := by decide +kernel
theorem dX7_noteOf_29 : decode cX7_noteOf 29 = .ok (.iaload, 1) := by decide +kernel
theorem dX7_noteOf_30 : decode cX7_noteOf 30 = .ok (.aload_n 0, 1) := by decide +kernel
theorem dX7_noteOf_31 : decode cX7_noteOf 31 = .ok (.getfield 15, 3) := by decide +kernel
theorem dX7_noteOf_34 : decode cX7_noteOf 34 = .ok (.iload_n 1, 1) := by decide +kernel
theorem dX7_noteOf_35 : decode cX7_noteOf 35 = .ok (.iaload, 1) := by decide +kernel
theorem dX7_noteOf_36 : decode cX7_noteOf 36 = .ok (.imul, 1) := by decide +kernel
theorem dX7_noteOf_37 : decode cX7_noteOf 37 = .ok (.iadd, 1) := by decide +kernel
theorem dX7_noteOf_38 : decode cX7_noteOf 38 = .ok (.imul, 1) := by decide +kernel
theorem dX7_noteOf_39 : decode cX7_noteOf 39 = .ok (.aload_n 0, 1) := by decide +kernel
theorem dX7_noteOf_40 : decode cX7_noteOf 40 = .ok (.getfield 18, 3) := by decide +kernel
theorem dX7_noteOf_43 : decode cX7_noteOf 43 = .ok (.iload_n 1, 1) := by decide +kernel
theorem dX7_noteOf_44 : decode cX7_noteOf 44 = .ok (.iaload, 1) := by decide +kernel
theorem dX7_noteOf_45 : decode cX7_noteOf 45 = .ok (.iadd, 1) := by decide +kernel
theorem dX7_noteOf_46 : decode cX7_noteOf 46 = .ok (.ireturn, 1) := by decide +kernel
set_option maxRecDepth 20000 in
theorem ggX7_swingAt_X8_isWay : GoodIn wsX7_swingAt wsX8_isWay := goodIn_r _ [11] (by decide +kernel) (by decide +kernel)
set_option maxRecDepth 20000 in
theorem gX7_swingAt_X8_isWay_n36 : GoodIn wsX7_swingAt (wsX8_isWay) := ggX7_swingAt_X8_isWay
set_option maxRecDepth 20000 in
theorem ggX7_swingAt_X8_isPlace : GoodIn wsX7_swingAt wsX8_isPlace := goodIn_r _ [13] (by decide +kernel) (by decide +kernel)
set_option maxRecDepth 20000 in
theorem gX7_swingAt_X8_isPlace_n40 : GoodIn wsX7_swingAt (wsX8_isPlace) := ggX7_swingAt_X8_isPlace
theorem dX7_swingAt_0 : decode cX7_swingAt 0 = .ok (.iload_n 1, 1) := by decide +kernel
theorem dX7_swingAt_1 : decode cX7_swingAt 1 = .ok (.invokestatic 36, 3) := by decide +kernel
theorem dX7_swingAt_4 : decode cX7_swingAt 4 = .ok (.ifCond .eq 11, 3) := by decide +kernel
theorem dX7_swingAt_7 : decode cX7_swingAt 7 = .ok (.iload_n 2, 1) := by decide +kernel
theorem dX7_swingAt_8 : decode cX7_swingAt 8 = .ok (.iload_n 3, 1) := by decide +kernel
theorem dX7_swingAt_9 : decode cX7_swingAt 9 = .ok (.invokestatic 40, 3) := by decide +kernel
theorem dX7_swingAt_12 : decode cX7_swingAt 12 = .ok (.ifCond .ne 5, 3) := by decide +kernel
theorem dX7_swingAt_15 : decode cX7_swingAt 15 = .ok (.iconst 0, 1) := by decide +kernel
theorem dX7_swingAt_16 : decode cX7_swingAt 16 = .ok (.ireturn, 1) := by decide +kernel
theorem dX7_swingAt_17 : decode cX7_swingAt 17 = .ok (.aload_n 0, 1) := by decide +kernel
theorem dX7_swingAt_18 : decode cX7_swingAt 18 = .ok (.getfield 9, 3) := by decide +kernel
theorem dX7_swingAt_21 : decode cX7_swingAt 21 = .ok (.iload_n 1, 1) := by decide +kernel
theorem dX7_swingAt_22 : decode cX7_swingAt 22 = .ok (.iaload, 1) := by decide +kernel
theorem dX7_swingAt_23 : decode cX7_swingAt 23 = .ok (.bipush 12, 2) := by decide +kernel
theorem dX7_swingAt_25 : decode cX7_swingAt 25 = .ok (.imul, 1) := by decide +kernel
theorem dX7_swingAt_26 : decode cX7_swingAt 26 = .ok (.istore 4, 2) := by decide +kernel
theorem dX7_swingAt_28 : decode cX7_swingAt 28 = .ok (.aload_n 0, 1) := by decide +kernel
theorem dX7_swingAt_29 : decode cX7_swingAt 29 = .ok (.getfield 15, 3) := by decide +kernel
theorem dX7_swingAt_32 : decode cX7_swingAt 32 = .ok (.iload_n 1, 1) := by decide +kernel
theorem dX7_swingAt_33 : decode cX7_swingAt 33 = .ok (.iaload, 1) := by decide +kernel
theorem dX7_swingAt_34 : decode cX7_swingAt 34 = .ok (.bipush 12, 2) := by decide +kernel
theorem dX7_swingAt_36 : decode cX7_swingAt 36 = .ok (.imul, 1) := by decide +kernel
theorem dX7_swingAt_37 : decode cX7_swingAt 37 = .ok (.istore 5, 2) := by decide +kernel
theorem dX7_swingAt_39 : decode cX7_swingAt 39 = .ok (.aload_n 0, 1) := by decide +kernel
theorem dX7_swingAt_40 : decode cX7_swingAt 40 = .ok (.getfield 21, 3) := by decide +kernel
theorem dX7_swingAt_43 : decode cX7_swingAt 43 = .ok (.iload 4, 2) := by decide +kernel
theorem dX7_swingAt_45 : decode cX7_swingAt 45 = .ok (.iload_n 2, 1) := by decide +kernel
theorem dX7_swingAt_46 : decode cX7_swingAt 46 = .ok (.iadd, 1) := by decide +kernel
theorem dX7_swingAt_47 : decode cX7_swingAt 47 = .ok (.iaload, 1) := by decide +kernel
theorem dX7_swingAt_48 : decode cX7_swingAt 48 = .ok (.aload_n 0, 1) := by decide +kernel
theorem dX7_swingAt_49 : decode cX7_swingAt 49 = .ok (.getfield 21, 3) := by decide +kernel
theorem dX7_swingAt_52 : decode cX7_swingAt 52 = .ok (.iload 5, 2) := by decide +kernel
theorem dX7_swingAt_54 : decode cX7_swingAt 54 = .ok (.iload_n 3, 1) := by decide +kernel
theorem dX7_swingAt_55 : decode cX7_swingAt 55 = .ok (.iadd, 1) := by decide +kernel
theorem dX7_swingAt_56 : decode cX7_swingAt 56 = .ok (.iaload, 1) := by decide +kernel
theorem dX7_swingAt_57 : decode cX7_swingAt 57 = .ok (.imul, 1) := by decide +kernel
theorem dX7_swingAt_58 : decode cX7_swingAt 58 = .ok (.istore 6, 2) := by decide +kernel
theorem dX7_swingAt_60 : decode cX7_swingAt 60 = .ok (.aload_n 0, 1) := by decide +kernel
theorem dX7_swingAt_61 : decode cX7_swingAt 61 = .ok (.getfield 21, 3) := by decide +kernel
theorem dX7_swingAt_64 : decode cX7_swingAt 64 = .ok (.iload 5, 2) := by decide +kernel
theorem dX7_swingAt_66 : decode cX7_swingAt 66 = .ok (.iload_n 2, 1) := by decide +kernel
theorem dX7_swingAt_67 : decode cX7_swingAt 67 = .ok (.iadd, 1) := by decide +kernel
theorem dX7_swingAt_68 : decode cX7_swingAt 68 = .ok (.iaload, 1) := by decide +kernel
theorem dX7_swingAt_69 : decode cX7_swingAt 69 = .ok (.aload_n 0, 1) := by decide +kernel
theorem dX7_swingAt_70 : decode cX7_swingAt 70 = .ok (.getfield 21, 3) := by decide +kernel
theorem dX7_swingAt_73 : decode cX7_swingAt 73 = .ok (.iload 4, 2) := by decide +kernel
theorem dX7_swingAt_75 : decode cX7_swingAt 75 = .ok (.iload_n 3, 1) := by decide +kernel
theorem dX7_swingAt_76 : decode cX7_swingAt 76 = .ok (.iadd, 1) := by decide +kernel
theorem dX7_swingAt_77 : decode cX7_swingAt 77 = .ok (.iaload, 1) := by decide +kernel
theorem dX7_swingAt_78 : decode cX7_swingAt 78 = .ok (.imul, 1) := by decide +kernel
theorem dX7_swingAt_79 : decode cX7_swingAt 79 = .ok (.istore 7, 2) := by decide +kernel
theorem dX7_swingAt_81 : decode cX7_swingAt 81 = .ok (.aload_n 0, 1) := by decide +kernel
theorem dX7_swingAt_82 : decode cX7_swingAt 82 = .ok (.getfield 18, 3) := by decide +kernel
theorem dX7_swingAt_85 : decode cX7_swingAt 85 = .ok (.iload_n 1, 1) := by decide +kernel
theorem dX7_swingAt_86 : decode cX7_swingAt 86 = .ok (.iaload, 1) := by decide +kernel
theorem dX7_swingAt_87 : decode cX7_swingAt 87 = .ok (.ifCond .ne 11, 3) := by decide +kernel
theorem dX7_swingAt_90 : decode cX7_swingAt 90 = .ok (.iload 6, 2) := by decide +kernel
theorem dX7_swingAt_92 : decode cX7_swingAt 92 = .ok (.iload 7, 2) := by decide +kernel
theorem dX7_swingAt_94 : decode cX7_swingAt 94 = .ok (.iadd, 1) := by decide +kernel
theorem dX7_swingAt_95 : decode cX7_swingAt 95 = .ok (.goto 8, 3) := by decide +kernel
theorem dX7_swingAt_98 : decode cX7_swingAt 98 = .ok (.iload 6, 2) := by decide +kernel
theorem dX7_swingAt_100 : decode cX7_swingAt 100 = .ok (.iload 7, 2) := by decide +kernel
theorem dX7_swingAt_102 : decode cX7_swingAt 102 = .ok (.isub, 1) := by decide +kernel
theorem dX7_swingAt_103 : decode cX7_swingAt 103 = .ok (.bipush 100, 2) := by decide +kernel
theorem dX7_swingAt_105 : decode cX7_swingAt 105 = .ok (.idiv, 1) := by decide +kernel
theorem dX7_swingAt_106 : decode cX7_swingAt 106 = .ok (.invokestatic 44, 3) := by decide +kernel
theorem dX7_swingAt_109 : decode cX7_swingAt 109 = .ok (.ireturn, 1) := by decide +kernel
set_option maxRecDepth 20000 in
theorem ggX8_init_X7_init : GoodIn wsX8_init wsX7_init := goodIn_r _ [36, 37, 2, 3, 38, 39, 40, 41, 42, 43, 44, 45, 6, 46, 47, 48, 49, 50, 138, 139, 140, 141, 142] (by decide +kernel) (by decide +kernel)
set_option maxRecDepth 20000 in
theorem gX8_init_X7_init : GoodIn wsX8_init (wsX7_init) := ggX8_init_X7_init
set_option maxRecDepth 20000 in
theorem ggX8_init_X5_init : GoodIn wsX8_init wsX5_init := goodIn_r _ [53, 54, 2, 3, 38, 55, 56, 57, 58, 59, 60, 61, 62, 63, 64, 65, 66, 67, 68, 69, 70, 71, 72, 73, 74, 75, 76, 77, 78, 79, 80, 81, 82, 83, 84, 85, 86, 87, 88, 89, 10, 90, 152, 153, 154, 155, 156, 157, 158, 159, 160, 161, 162, 163, 186, 187, 188, 189, 190] (by decide +kernel) (by decide +kernel)
set_option maxRecDepth 20000 in
theorem gX8_init_X5_init : GoodIn wsX8_init (wsX5_init) := ggX8_init_X5_init
set_option maxRecDepth 20000 in
theorem ggX8_init_X0_init : GoodIn wsX8_init wsX0_init := goodIn_r _ [93, 94, 2, 3, 38, 95, 96, 97, 98, 99, 100, 164, 165, 166, 167, 168] (by decide +kernel) (by decide +kernel)
set_option maxRecDepth 20000 in
theorem gX8_init_X0_init : GoodIn wsX8_init (wsX0_init) := ggX8_init_X0_init
set_option maxRecDepth 20000 in
theorem ggX8_init_X1_init : GoodIn wsX8_init wsX1_init := goodIn_r _ [103, 104, 2, 3, 97, 105, 38, 106, 107, 108, 109, 169, 170, 171, 172, 173] (by decide +kernel) (by decide +kernel)
set_option maxRecDepth 20000 in
theorem gX8_init_X1_init : GoodIn wsX8_init (wsX1_init) := ggX8_init_X1_init
set_option maxRecDepth 20000 in
theorem ggX8_init_X3_init : GoodIn wsX8_init wsX3_init := goodIn_r _ [112, 113, 2, 3, 38, 114, 115, 116, 117, 118, 174, 175, 176, 177, 178] (by decide +kernel) (by decide +kernel)
set_option maxRecDepth 20000 in
theorem gX8_init_X3_init : GoodIn wsX8_init (wsX3_init) := ggX8_init_X3_init
set_option maxRecDepth 20000 in
theorem ggX8_init_X6_init : GoodIn wsX8_init wsX6_init := goodIn_r _ [120, 121, 2, 3, 122, 123, 124, 125, 61, 62, 126, 127, 128, 75, 76, 77, 78, 79, 80, 81, 82, 83, 38, 84, 85, 86, 179, 180, 181, 182, 186, 187, 188, 189, 190] (by decide +kernel) (by decide +kernel)
set_option maxRecDepth 20000 in
theorem gX8_init_X6_init_n48 : GoodIn wsX8_init (wsX6_init) := ggX8_init_X6_init
set_option maxRecDepth 20000 in
theorem ggX8_init_X2_init : GoodIn wsX8_init wsX2_init := goodIn_r _ [131, 132, 2, 3, 133, 134, 135, 136, 9, 10, 137, 52, 53, 54, 38, 55, 56, 57, 58, 59, 60, 61, 62, 63, 64, 65, 66, 67, 68, 69, 70, 71, 72, 73, 74, 75, 76, 77, 78, 79, 80, 81, 82, 83, 84, 85, 86, 87, 88, 89, 90, 183, 184, 185, 152, 153, 154, 155, 156, 157, 158, 159, 160, 161, 162, 163, 186, 187, 188, 189, 190] (by decide +kernel) (by decide +kernel)
set_option maxRecDepth 20000 in
theorem gX8_init_X2_init : GoodIn wsX8_init (wsX2_init) := ggX8_init_X2_init
