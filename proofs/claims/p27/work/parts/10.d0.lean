/-! printed rows -/
theorem dX0_init_0 : decode cX0_init 0 = .ok (.aload_n 0, 1) := by decide +kernel
theorem dX0_init_1 : decode cX0_init 1 = .ok (.invokespecial 3, 3) := by decide +kernel
theorem dX0_init_4 : decode cX0_init 4 = .ok (.aload_n 0, 1) := by decide +kernel
theorem dX0_init_5 : decode cX0_init 5 = .ok (.bipush 48, 2) := by decide +kernel
theorem dX0_init_7 : decode cX0_init 7 = .ok (.newarray .int, 2) := by decide +kernel
theorem dX0_init_9 : decode cX0_init 9 = .ok (.putfield 9, 3) := by decide +kernel
theorem dX0_init_12 : decode cX0_init 12 = .ok (.aload_n 0, 1) := by decide +kernel
theorem dX0_init_13 : decode cX0_init 13 = .ok (.iconst 0, 1) := by decide +kernel
theorem dX0_init_14 : decode cX0_init 14 = .ok (.putfield 15, 3) := by decide +kernel
theorem dX0_init_17 : decode cX0_init 17 = .ok (.aload_n 0, 1) := by decide +kernel
theorem dX0_init_18 : decode cX0_init 18 = .ok (.bipush 48, 2) := by decide +kernel
theorem dX0_init_20 : decode cX0_init 20 = .ok (.newarray .boolean, 2) := by decide +kernel
theorem dX0_init_22 : decode cX0_init 22 = .ok (.putfield 19, 3) := by decide +kernel
theorem dX0_init_25 : decode cX0_init 25 = .ok (.aload_n 0, 1) := by decide +kernel
theorem dX0_init_26 : decode cX0_init 26 = .ok (.aload_n 1, 1) := by decide +kernel
theorem dX0_init_27 : decode cX0_init 27 = .ok (.putfield 23, 3) := by decide +kernel
theorem dX0_init_30 : decode cX0_init 30 = .ok (.aload_n 0, 1) := by decide +kernel
theorem dX0_init_31 : decode cX0_init 31 = .ok (.aload_n 2, 1) := by decide +kernel
theorem dX0_init_32 : decode cX0_init 32 = .ok (.putfield 27, 3) := by decide +kernel
theorem dX0_init_35 : decode cX0_init 35 = .ok (.return_, 1) := by decide +kernel
set_option maxRecDepth 20000 in
theorem ggX0_clampsAllow_X7_swingAt : GoodIn wsX0_clampsAllow wsX7_swingAt := goodIn_r _ [7, 8, 9, 10, 11, 12, 13, 14, 15, 16, 17, 18, 19, 20, 38, 39, 40, 41, 42] (by decide +kernel) (by decide +kernel)
set_option maxRecDepth 20000 in
theorem gX0_clampsAllow_X7_swingAt : GoodIn wsX0_clampsAllow (wsV RX0 42 RX7 yX7_swingAt wsX7_swingAt) := goodIn_app (goodIn_of _ (by decide +kernel)) ggX0_clampsAllow_X7_swingAt
theorem dX0_clampsAllow_0 : decode cX0_clampsAllow 0 = .ok (.iconst 0, 1) := by decide +kernel
theorem dX0_clampsAllow_1 : decode cX0_clampsAllow 1 = .ok (.istore_n 2, 1) := by decide +kernel
theorem dX0_clampsAllow_2 : decode cX0_clampsAllow 2 = .ok (.iload_n 2, 1) := by decide +kernel
theorem dX0_clampsAllow_3 : decode cX0_clampsAllow 3 = .ok (.aload_n 0, 1) := by decide +kernel
theorem dX0_clampsAllow_4 : decode cX0_clampsAllow 4 = .ok (.getfield 27, 3) := by decide +kernel
theorem dX0_clampsAllow_7 : decode cX0_clampsAllow 7 = .ok (.getfield 31, 3) := by decide +kernel
theorem dX0_clampsAllow_10 : decode cX0_clampsAllow 10 = .ok (.if_icmp .ge 51, 3) := by decide +kernel
theorem dX0_clampsAllow_13 : decode cX0_clampsAllow 13 = .ok (.aload_n 0, 1) := by decide +kernel
theorem dX0_clampsAllow_14 : decode cX0_clampsAllow 14 = .ok (.getfield 23, 3) := by decide +kernel
theorem dX0_clampsAllow_17 : decode cX0_clampsAllow 17 = .ok (.iload_n 1, 1) := by decide +kernel
theorem dX0_clampsAllow_18 : decode cX0_clampsAllow 18 = .ok (.aload_n 0, 1) := by decide +kernel
theorem dX0_clampsAllow_19 : decode cX0_clampsAllow 19 = .ok (.getfield 27, 3) := by decide +kernel
theorem dX0_clampsAllow_22 : decode cX0_clampsAllow 22 = .ok (.getfield 36, 3) := by decide +kernel
theorem dX0_clampsAllow_25 : decode cX0_clampsAllow 25 = .ok (.iload_n 2, 1) := by decide +kernel
theorem dX0_clampsAllow_26 : decode cX0_clampsAllow 26 = .ok (.iaload, 1) := by decide +kernel
theorem dX0_clampsAllow_27 : decode cX0_clampsAllow 27 = .ok (.aload_n 0, 1) := by decide +kernel
theorem dX0_clampsAllow_28 : decode cX0_clampsAllow 28 = .ok (.getfield 27, 3) := by decide +kernel
theorem dX0_clampsAllow_31 : decode cX0_clampsAllow 31 = .ok (.getfield 39, 3) := by decide +kernel
theorem dX0_clampsAllow_34 : decode cX0_clampsAllow 34 = .ok (.iload_n 2, 1) := by decide +kernel
theorem dX0_clampsAllow_35 : decode cX0_clampsAllow 35 = .ok (.iaload, 1) := by decide +kernel
theorem dX0_clampsAllow_36 : decode cX0_clampsAllow 36 = .ok (.invokevirtual 42, 3) := by decide +kernel
theorem dX0_clampsAllow_39 : decode cX0_clampsAllow 39 = .ok (.istore_n 3, 1) := by decide +kernel
theorem dX0_clampsAllow_40 : decode cX0_clampsAllow 40 = .ok (.iload_n 3, 1) := by decide +kernel
theorem dX0_clampsAllow_41 : decode cX0_clampsAllow 41 = .ok (.aload_n 0, 1) := by decide +kernel
theorem dX0_clampsAllow_42 : decode cX0_clampsAllow 42 = .ok (.getfield 27, 3) := by decide +kernel
theorem dX0_clampsAllow_45 : decode cX0_clampsAllow 45 = .ok (.getfield 48, 3) := by decide +kernel
theorem dX0_clampsAllow_48 : decode cX0_clampsAllow 48 = .ok (.iconst 0, 1) := by decide +kernel
theorem dX0_clampsAllow_49 : decode cX0_clampsAllow 49 = .ok (.iaload, 1) := by decide +kernel
theorem dX0_clampsAllow_50 : decode cX0_clampsAllow 50 = .ok (.if_icmp .le 5, 3) := by decide +kernel
theorem dX0_clampsAllow_53 : decode cX0_clampsAllow 53 = .ok (.iconst 0, 1) := by decide +kernel
theorem dX0_clampsAllow_54 : decode cX0_clampsAllow 54 = .ok (.ireturn, 1) := by decide +kernel
theorem dX0_clampsAllow_55 : decode cX0_clampsAllow 55 = .ok (.iinc 2 1, 3) := by decide +kernel
theorem dX0_clampsAllow_58 : decode cX0_clampsAllow 58 = .ok (.goto (-56), 3) := by decide +kernel
theorem dX0_clampsAllow_61 : decode cX0_clampsAllow 61 = .ok (.iconst 1, 1) := by decide +kernel
theorem dX0_clampsAllow_62 : decode cX0_clampsAllow 62 = .ok (.ireturn, 1) := by decide +kernel
set_option maxRecDepth 20000 in
theorem ggX0_bowAllows_X0_swingAtBow : GoodIn wsX0_bowAllows wsX0_swingAtBow := goodIn_r _ [6, 7, 8, 9, 10, 11, 12, 13, 14, 15, 16, 17, 18, 19, 20, 21, 22, 23, 24, 25, 26, 27, 28, 29, 30, 43, 44, 45, 46, 47] (by decide +kernel) (by decide +kernel)
set_option maxRecDepth 20000 in
theorem gX0_bowAllows_X0_swingAtBow : GoodIn wsX0_bowAllows (wsV RX0 51 RX0 yX0_swingAtBow wsX0_swingAtBow) := goodIn_app (goodIn_of _ (by decide +kernel)) ggX0_bowAllows_X0_swingAtBow
theorem dX0_bowAllows_0 : decode cX0_bowAllows 0 = .ok (.aload_n 0, 1) := by decide +kernel
theorem dX0_bowAllows_1 : decode cX0_bowAllows 1 = .ok (.iload_n 1, 1) := by decide +kernel
theorem dX0_bowAllows_2 : decode cX0_bowAllows 2 = .ok (.iload_n 2, 1) := by decide +kernel
theorem dX0_bowAllows_3 : decode cX0_bowAllows 3 = .ok (.iload_n 3, 1) := by decide +kernel
theorem dX0_bowAllows_4 : decode cX0_bowAllows 4 = .ok (.invokevirtual 51, 3) := by decide +kernel
theorem dX0_bowAllows_7 : decode cX0_bowAllows 7 = .ok (.aload_n 0, 1) := by decide +kernel
theorem dX0_bowAllows_8 : decode cX0_bowAllows 8 = .ok (.getfield 27, 3) := by decide +kernel
theorem dX0_bowAllows_11 : decode cX0_bowAllows 11 = .ok (.getfield 48, 3) := by decide +kernel
theorem dX0_bowAllows_14 : decode cX0_bowAllows 14 = .ok (.iconst 1, 1) := by decide +kernel
theorem dX0_bowAllows_15 : decode cX0_bowAllows 15 = .ok (.iaload, 1) := by decide +kernel
theorem dX0_bowAllows_16 : decode cX0_bowAllows 16 = .ok (.if_icmp .lt 7, 3) := by decide +kernel
theorem dX0_bowAllows_19 : decode cX0_bowAllows 19 = .ok (.iconst 1, 1) := by decide +kernel
theorem dX0_bowAllows_20 : decode cX0_bowAllows 20 = .ok (.goto 4, 3) := by decide +kernel
theorem dX0_bowAllows_23 : decode cX0_bowAllows 23 = .ok (.iconst 0, 1) := by decide +kernel
theorem dX0_bowAllows_24 : decode cX0_bowAllows 24 = .ok (.ireturn, 1) := by decide +kernel
set_option maxRecDepth 20000 in
theorem ggX0_swingAtBow_X7_swingAt : GoodIn wsX0_swingAtBow wsX7_swingAt := goodIn_r _ [6, 7, 8, 9, 10, 11, 12, 13, 14, 15, 16, 17, 18, 19, 25, 26, 27, 28, 29] (by decide +kernel) (by decide +kernel)
set_option maxRecDepth 20000 in
theorem gX0_swingAtBow_X7_swingAt : GoodIn wsX0_swingAtBow (wsV RX0 42 RX7 yX7_swingAt wsX7_swingAt) := goodIn_app (goodIn_of _ (by decide +kernel)) ggX0_swingAtBow_X7_swingAt
theorem dX0_swingAtBow_0 : decode cX0_swingAtBow 0 = .ok (.iload_n 2, 1) := by decide +kernel
theorem dX0_swingAtBow_1 : decode cX0_swingAtBow 1 = .ok (.tableswitch 62 0 2 #[27, 38, 50], 27) := by decide +kernel
theorem dX0_swingAtBow_28 : decode cX0_swingAtBow 28 = .ok (.aload_n 0, 1) := by decide +kernel
theorem dX0_swingAtBow_29 : decode cX0_swingAtBow 29 = .ok (.getfield 23, 3) := by decide +kernel
theorem dX0_swingAtBow_32 : decode cX0_swingAtBow 32 = .ok (.iload_n 1, 1) := by decide +kernel
theorem dX0_swingAtBow_33 : decode cX0_swingAtBow 33 = .ok (.iload_n 3, 1) := by decide +kernel
theorem dX0_swingAtBow_34 : decode cX0_swingAtBow 34 = .ok (.iconst 0, 1) := by decide +kernel
theorem dX0_swingAtBow_35 : decode cX0_swingAtBow 35 = .ok (.invokevirtual 42, 3) := by decide +kernel
theorem dX0_swingAtBow_38 : decode cX0_swingAtBow 38 = .ok (.ireturn, 1) := by decide +kernel
theorem dX0_swingAtBow_39 : decode cX0_swingAtBow 39 = .ok (.aload_n 0, 1) := by decide +kernel
theorem dX0_swingAtBow_40 : decode cX0_swingAtBow 40 = .ok (.getfield 23, 3) := by decide +kernel
theorem dX0_swingAtBow_43 : decode cX0_swingAtBow 43 = .ok (.iload_n 1, 1) := by decide +kernel
theorem dX0_swingAtBow_44 : decode cX0_swingAtBow 44 = .ok (.bipush 11, 2) := by decide +kernel
theorem dX0_swingAtBow_46 : decode cX0_swingAtBow 46 = .ok (.iload_n 3, 1) := by decide +kernel
theorem dX0_swingAtBow_47 : decode cX0_swingAtBow 47 = .ok (.invokevirtual 42, 3) := by decide +kernel
theorem dX0_swingAtBow_50 : decode cX0_swingAtBow 50 = .ok (.ireturn, 1) := by decide +kernel
theorem dX0_swingAtBow_51 : decode cX0_swingAtBow 51 = .ok (.aload_n 0, 1) := by decide +kernel
theorem dX0_swingAtBow_52 : decode cX0_swingAtBow 52 = .ok (.getfield 23, 3) := by decide +kernel
theorem dX0_swingAtBow_55 : decode cX0_swingAtBow 55 = .ok (.iload_n 1, 1) := by decide +kernel
theorem dX0_swingAtBow_56 : decode cX0_swingAtBow 56 = .ok (.iload_n 3, 1) := by decide +kernel
theorem dX0_swingAtBow_57 : decode cX0_swingAtBow 57 = .ok (.bipush 11, 2) := by decide +kernel
theorem dX0_swingAtBow_59 : decode cX0_swingAtBow 59 = .ok (.invokevirtual 42, 3) := by decide +kernel
theorem dX0_swingAtBow_62 : decode cX0_swingAtBow 62 = .ok (.ireturn, 1) := by decide +kernel
theorem dX0_swingAtBow_63 : decode cX0_swingAtBow 63 = .ok (.aload_n 0, 1) := by decide +kernel
theorem dX0_swingAtBow_64 : decode cX0_swingAtBow 64 = .ok (.getfield 23, 3) := by decide +kernel
theorem dX0_swingAtBow_67 : decode cX0_swingAtBow 67 = .ok (.iload_n 1, 1) := by decide +kernel
theorem dX0_swingAtBow_68 : decode cX0_swingAtBow 68 = .ok (.iconst 0, 1) := by decide +kernel
theorem dX0_swingAtBow_69 : decode cX0_swingAtBow 69 = .ok (.iload_n 3, 1) := by decide +kernel
theorem dX0_swingAtBow_70 : decode cX0_swingAtBow 70 = .ok (.invokevirtual 42, 3) := by decide +kernel
theorem dX0_swingAtBow_73 : decode cX0_swingAtBow 73 = .ok (.ireturn, 1) := by decide +kernel
set_option maxRecDepth 20000 in
theorem ggX0_wayFor_X0_bowAllows : GoodIn wsX0_wayFor wsX0_bowAllows := goodIn_r _ [5, 6, 7, 8, 9, 4, 10, 11, 12, 13, 14, 15, 16, 17, 18, 19, 20, 21, 22, 23, 24, 25, 26, 27, 28, 29, 34, 35, 36, 37, 38, 39, 40, 41, 42, 43, 44, 45, 46, 47, 48, 49, 50, 51, 52, 53, 54, 55] (by decide +kernel) (by decide +kernel)
set_option maxRecDepth 20000 in
theorem gX0_wayFor_X0_bowAllows : GoodIn wsX0_wayFor (wsV RX0 54 RX0 yX0_bowAllows wsX0_bowAllows) := goodIn_app (goodIn_of _ (by decide +kernel)) ggX0_wayFor_X0_bowAllows
set_option maxRecDepth 20000 in
theorem ggX0_wayFor_X0_clampsAllow : GoodIn wsX0_wayFor wsX0_clampsAllow := goodIn_r _ [33, 6, 11, 12, 13, 14, 15, 16, 17, 18, 19, 20, 21, 22, 23, 24, 25, 26, 27, 28, 29, 34, 35, 36, 37, 38, 39, 40, 41, 42, 43, 44, 45, 46, 47, 48, 49, 50, 51, 52, 53, 54, 55] (by decide +kernel) (by decide +kernel)
set_option maxRecDepth 20000 in
theorem gX0_wayFor_X0_clampsAllow : GoodIn wsX0_wayFor (wsV RX0 58 RX0 yX0_clampsAllow wsX0_clampsAllow) := goodIn_app (goodIn_of _ (by decide +kernel)) ggX0_wayFor_X0_clampsAllow
theorem dX0_wayFor_0 : decode cX0_wayFor 0 = .ok (.iconst 0, 1) := by decide +kernel
theorem dX0_wayFor_1 : decode cX0_wayFor 1 = .ok (.istore_n 3, 1) := by decide +kernel
theorem dX0_wayFor_2 : decode cX0_wayFor 2 = .ok (.iload_n 3, 1) := by decide +kernel
theorem dX0_wayFor_3 : decode cX0_wayFor 3 = .ok (.bipush 48, 2) := by decide +kernel
theorem dX0_wayFor_5 : decode cX0_wayFor 5 = .ok (.if_icmp .ge 29, 3) := by decide +kernel
theorem dX0_wayFor_8 : decode cX0_wayFor 8 = .ok (.aload_n 0, 1) := by decide +kernel
theorem dX0_wayFor_9 : decode cX0_wayFor 9 = .ok (.iload_n 3, 1) := by decide +kernel
theorem dX0_wayFor_10 : decode cX0_wayFor 10 = .ok (.iload_n 1, 1) := by decide +kernel
theorem dX0_wayFor_11 : decode cX0_wayFor 11 = .ok (.iload_n 2, 1) := by decide +kernel
theorem dX0_wayFor_12 : decode cX0_wayFor 12 = .ok (.invokevirtual 54, 3) := by decide +kernel
theorem dX0_wayFor_15 : decode cX0_wayFor 15 = .ok (.ifCond .eq 13, 3) := by decide +kernel
theorem dX0_wayFor_18 : decode cX0_wayFor 18 = .ok (.aload_n 0, 1) := by decide +kernel
theorem dX0_wayFor_19 : decode cX0_wayFor 19 = .ok (.iload_n 3, 1) := by decide +kernel
theorem dX0_wayFor_20 : decode cX0_wayFor 20 = .ok (.invokevirtual 58, 3) := by decide +kernel
theorem dX0_wayFor_23 : decode cX0_wayFor 23 = .ok (.ifCond .eq 5, 3) := by decide +kernel
theorem dX0_wayFor_26 : decode cX0_wayFor 26 = .ok (.iload_n 3, 1) := by decide +kernel
theorem dX0_wayFor_27 : decode cX0_wayFor 27 = .ok (.ireturn, 1) := by decide +kernel
theorem dX0_wayFor_28 : decode cX0_wayFor 28 = .ok (.iinc 3 1, 3) := by decide +kernel
theorem dX0_wayFor_31 : decode cX0_wayFor 31 = .ok (.goto (-29), 3) := by decide +kernel
theorem dX0_wayFor_34 : decode cX0_wayFor 34 = .ok (.iconst (-1), 1) := by decide +kernel
theorem dX0_wayFor_35 : decode cX0_wayFor 35 = .ok (.ireturn, 1) := by decide +kernel
set_option maxRecDepth 20000 in
theorem ggX0_reasonOf_X0_clampsAllow : GoodIn wsX0_reasonOf wsX0_clampsAllow := goodIn_r _ [5, 6, 7, 8, 9, 10, 11, 12, 13, 14, 15, 16, 17, 18, 19, 20, 21, 22, 23, 24, 25, 38, 39, 40, 41, 42, 43, 44, 45, 46, 47, 48, 49, 50, 51, 52, 53, 54, 55, 56, 57, 58, 59] (by decide +kernel) (by decide +kernel)
set_option maxRecDepth 20000 in
theorem gX0_reasonOf_X0_clampsAllow : GoodIn wsX0_reasonOf (wsV RX0 58 RX0 yX0_clampsAllow wsX0_clampsAllow) := goodIn_app (goodIn_of _ (by decide +kernel)) ggX0_reasonOf_X0_clampsAllow
set_option maxRecDepth 20000 in
theorem ggX0_reasonOf_X0_bowAllows : GoodIn wsX0_reasonOf wsX0_bowAllows := goodIn_r _ [29, 6, 30, 31, 32, 4, 33, 7, 8, 9, 10, 11, 12, 13, 14, 15, 16, 17, 18, 19, 20, 21, 22, 23, 24, 25, 38, 39, 40, 41, 42, 43, 44, 45, 46, 47, 48, 49, 50, 51, 52, 53, 54, 55, 56, 57, 58, 59] (by decide +kernel) (by decide +kernel)
set_option maxRecDepth 20000 in
theorem gX0_reasonOf_X0_bowAllows : GoodIn wsX0_reasonOf (wsV RX0 54 RX0 yX0_bowAllows wsX0_bowAllows) := goodIn_app (goodIn_of _ (by decide +kernel)) ggX0_reasonOf_X0_bowAllows
set_option maxRecDepth 20000 in
theorem ggX0_reasonOf_X0_wayFor : GoodIn wsX0_reasonOf wsX0_wayFor := goodIn_r _ [37, 26, 27, 28, 4, 29, 6, 30, 31, 32, 33, 7, 8, 9, 10, 11, 12, 13, 14, 15, 16, 17, 18, 19, 20, 21, 22, 23, 24, 25, 1, 2, 3, 5, 38, 39, 40, 41, 42, 43, 44, 45, 46, 47, 48, 49, 50, 51, 52, 53, 54, 55, 56, 57, 58, 59] (by decide +kernel) (by decide +kernel)
set_option maxRecDepth 20000 in
theorem gX0_reasonOf_X0_wayFor : GoodIn wsX0_reasonOf (wsV RX0 62 RX0 yX0_wayFor wsX0_wayFor) := goodIn_app (goodIn_of _ (by decide +kernel)) ggX0_reasonOf_X0_wayFor
theorem dX0_reasonOf_0 : decode cX0_reasonOf 0 = .ok (.aload_n 0, 1) := by decide +kernel
theorem dX0_reasonOf_1 : decode cX0_reasonOf 1 = .ok (.iload_n 1, 1) := by decide +kernel
theorem dX0_reasonOf_2 : decode cX0_reasonOf 2 = .ok (.invokevirtual 58, 3) := by decide +kernel
theorem dX0_reasonOf_5 : decode cX0_reasonOf 5 = .ok (.ifCond .ne 5, 3) := by decide +kernel
theorem dX0_reasonOf_8 : decode cX0_reasonOf 8 = .ok (.iconst 1, 1) := by decide +kernel
theorem dX0_reasonOf_9 : decode cX0_reasonOf 9 = .ok (.ireturn, 1) := by decide +kernel
theorem dX0_reasonOf_10 : decode cX0_reasonOf 10 = .ok (.aload_n 0, 1) := by decide +kernel
theorem dX0_reasonOf_11 : decode cX0_reasonOf 11 = .ok (.iload_n 1, 1) := by decide +kernel
theorem dX0_reasonOf_12 : decode cX0_reasonOf 12 = .ok (.iload_n 2, 1) := by decide +kernel
theorem dX0_reasonOf_13 : decode cX0_reasonOf 13 = .ok (.iload_n 3, 1) := by decide +kernel
theorem dX0_reasonOf_14 : decode cX0_reasonOf 14 = .ok (.invokevirtual 54, 3) := by decide +kernel
theorem dX0_reasonOf_17 : decode cX0_reasonOf 17 = .ok (.ifCond .ne 5, 3) := by decide +kernel
theorem dX0_reasonOf_20 : decode cX0_reasonOf 20 = .ok (.iconst 2, 1) := by decide +kernel
theorem dX0_reasonOf_21 : decode cX0_reasonOf 21 = .ok (.ireturn, 1) := by decide +kernel
theorem dX0_reasonOf_22 : decode cX0_reasonOf 22 = .ok (.aload_n 0, 1) := by decide +kernel
theorem dX0_reasonOf_23 : decode cX0_reasonOf 23 = .ok (.iload_n 2, 1) := by decide +kernel
theorem dX0_reasonOf_24 : decode cX0_reasonOf 24 = .ok (.iload_n 3, 1) := by decide +kernel
theorem dX0_reasonOf_25 : decode cX0_reasonOf 25 = .ok (.invokevirtual 62, 3) := by decide +kernel
theorem dX0_reasonOf_28 : decode cX0_reasonOf 28 = .ok (.iload_n 1, 1) := by decide +kernel
theorem dX0_reasonOf_29 : decode cX0_reasonOf 29 = .ok (.if_icmp .ne 7, 3) := by decide +kernel
theorem dX0_reasonOf_32 : decode cX0_reasonOf 32 = .ok (.iconst 0, 1) := by decide +kernel
theorem dX0_reasonOf_33 : decode cX0_reasonOf 33 = .ok (.goto 4, 3) := by decide +kernel
theorem dX0_reasonOf_36 : decode cX0_reasonOf 36 = .ok (.iconst 3, 1) := by decide +kernel
theorem dX0_reasonOf_37 : decode cX0_reasonOf 37 = .ok (.ireturn, 1) := by decide +kernel
set_option maxRecDepth 20000 in
theorem ggX0_findPossible_X0_clampsAllow : GoodIn wsX0_findPossible wsX0_clampsAllow := goodIn_r _ [8, 9, 10, 11, 12, 13, 14, 15, 16, 17, 18, 19, 20, 21, 22, 23, 24, 25, 26, 27, 28, 41, 42, 43, 44, 45, 46, 47, 48, 49, 50, 51, 52, 53, 54, 55, 56, 57, 58, 59, 60, 61, 62] (by decide +kernel) (by decide +kernel)
set_option maxRecDepth 20000 in
theorem gX0_findPossible_X0_clampsAllow : GoodIn wsX0_findPossible (wsV RX0 58 RX0 yX0_clampsAllow wsX0_clampsAllow) := goodIn_app (goodIn_of _ (by decide +kernel)) ggX0_findPossible_X0_clampsAllow
set_option maxRecDepth 20000 in
theorem ggX0_findPossible_X0_takesBow : GoodIn wsX0_findPossible wsX0_takesBow := goodIn_r _ [32, 1, 33, 34, 35, 7, 36, 9, 37, 38, 39, 40, 10, 11, 12, 13, 14, 15, 16, 17, 18, 19, 20, 21, 22, 23, 24, 25, 26, 27, 28, 41, 42, 43, 44, 45, 46, 47, 48, 49, 50, 51, 52, 53, 54, 55, 56, 57, 58, 59, 60, 61, 62] (by decide +kernel) (by decide +kernel)
set_option maxRecDepth 20000 in
theorem gX0_findPossible_X0_takesBow : GoodIn wsX0_findPossible (wsV RX0 66 RX0 yX0_takesBow wsX0_takesBow) := goodIn_app (goodIn_of _ (by decide +kernel)) ggX0_findPossible_X0_takesBow
theorem dX0_findPossible_0 : decode cX0_findPossible 0 = .ok (.iconst 0, 1) := by decide +kernel
theorem dX0_findPossible_1 : decode cX0_findPossible 1 = .ok (.istore_n 1, 1) := by decide +kernel
theorem dX0_findPossible_2 : decode cX0_findPossible 2 = .ok (.iload_n 1, 1) := by decide +kernel
theorem dX0_findPossible_3 : decode cX0_findPossible 3 = .ok (.bipush 48, 2) := by decide +kernel
theorem dX0_findPossible_5 : decode cX0_findPossible 5 = .ok (.if_icmp .ge 16, 3) := by decide +kernel
theorem dX0_findPossible_8 : decode cX0_findPossible 8 = .ok (.aload_n 0, 1) := by decide +kernel
theorem dX0_findPossible_9 : decode cX0_findPossible 9 = .ok (.getfield 19, 3) := by decide +kernel
theorem dX0_findPossible_12 : decode cX0_findPossible 12 = .ok (.iload_n 1, 1) := by decide +kernel
theorem dX0_findPossible_13 : decode cX0_findPossible 13 = .ok (.iconst 0, 1) := by decide +kernel
theorem dX0_findPossible_14 : decode cX0_findPossible 14 = .ok (.bastore, 1) := by decide +kernel
theorem dX0_findPossible_15 : decode cX0_findPossible 15 = .ok (.iinc 1 1, 3) := by decide +kernel
theorem dX0_findPossible_18 : decode cX0_findPossible 18 = .ok (.goto (-16), 3) := by decide +kernel
theorem dX0_findPossible_21 : decode cX0_findPossible 21 = .ok (.aload_n 0, 1) := by decide +kernel
theorem dX0_findPossible_22 : decode cX0_findPossible 22 = .ok (.iconst 0, 1) := by decide +kernel
theorem dX0_findPossible_23 : decode cX0_findPossible 23 = .ok (.putfield 15, 3) := by decide +kernel
theorem dX0_findPossible_26 : decode cX0_findPossible 26 = .ok (.iconst 0, 1) := by decide +kernel
theorem dX0_findPossible_27 : decode cX0_findPossible 27 = .ok (.istore_n 1, 1) := by decide +kernel
theorem dX0_findPossible_28 : decode cX0_findPossible 28 = .ok (.iload_n 1, 1) := by decide +kernel
theorem dX0_findPossible_29 : decode cX0_findPossible 29 = .ok (.bipush 48, 2) := by decide +kernel
theorem dX0_findPossible_31 : decode cX0_findPossible 31 = .ok (.if_icmp .ge 54, 3) := by decide +kernel
theorem dX0_findPossible_34 : decode cX0_findPossible 34 = .ok (.aload_n 0, 1) := by decide +kernel
theorem dX0_findPossible_35 : decode cX0_findPossible 35 = .ok (.iload_n 1, 1) := by decide +kernel
theorem dX0_findPossible_36 : decode cX0_findPossible 36 = .ok (.invokevirtual 58, 3) := by decide +kernel
theorem dX0_findPossible_39 : decode cX0_findPossible 39 = .ok (.ifCond .eq 40, 3) := by decide +kernel
theorem dX0_findPossible_42 : decode cX0_findPossible 42 = .ok (.aload_n 0, 1) := by decide +kernel
theorem dX0_findPossible_43 : decode cX0_findPossible 43 = .ok (.iload_n 1, 1) := by decide +kernel
theorem dX0_findPossible_44 : decode cX0_findPossible 44 = .ok (.invokevirtual 66, 3) := by decide +kernel
theorem dX0_findPossible_47 : decode cX0_findPossible 47 = .ok (.ifCond .eq 32, 3) := by decide +kernel
theorem dX0_findPossible_50 : decode cX0_findPossible 50 = .ok (.aload_n 0, 1) := by decide +kernel
theorem dX0_findPossible_51 : decode cX0_findPossible 51 = .ok (.getfield 15, 3) := by decide +kernel
theorem dX0_findPossible_54 : decode cX0_findPossible 54 = .ok (.bipush 48, 2) := by decide +kernel
theorem dX0_findPossible_56 : decode cX0_findPossible 56 = .ok (.if_icmp .ge 23, 3) := by decide +kernel
theorem dX0_findPossible_59 : decode cX0_findPossible 59 = .ok (.aload_n 0, 1) := by decide +kernel
theorem dX0_findPossible_60 : decode cX0_findPossible 60 = .ok (.getfield 9, 3) := by decide +kernel
theorem dX0_findPossible_63 : decode cX0_findPossible 63 = .ok (.aload_n 0, 1) := by decide +kernel
theorem dX0_findPossible_64 : decode cX0_findPossible 64 = .ok (.getfield 15, 3) := by decide +kernel
theorem dX0_findPossible_67 : decode cX0_findPossible 67 = .ok (.iload_n 1, 1) := by decide +kernel
theorem dX0_findPossible_68 : decode cX0_findPossible 68 = .ok (.iastore, 1) := by decide +kernel
theorem dX0_findPossible_69 : decode cX0_findPossible 69 = .ok (.aload_n 0, 1) := by decide +kernel
theorem dX0_findPossible_70 : decode cX0_findPossible 70 = .ok (.dup, 1) := by decide +kernel
theorem dX0_findPossible_71 : decode cX0_findPossible 71 = .ok (.getfield 15, 3) := by decide +kernel
theorem dX0_findPossible_74 : decode cX0_findPossible 74 = .ok (.iconst 1, 1) := by decide +kernel
theorem dX0_findPossible_75 : decode cX0_findPossible 75 = .ok (.iadd, 1) := by decide +kernel
theorem dX0_findPossible_76 : decode cX0_findPossible 76 = .ok (.putfield 15, 3) := by decide +kernel
theorem dX0_findPossible_79 : decode cX0_findPossible 79 = .ok (.iinc 1 1, 3) := by decide +kernel
theorem dX0_findPossible_82 : decode cX0_findPossible 82 = .ok (.goto (-54), 3) := by decide +kernel
theorem dX0_findPossible_85 : decode cX0_findPossible 85 = .ok (.return_, 1) := by decide +kernel
set_option maxRecDepth 20000 in
theorem ggX0_takesBow_X0_bowAllows : GoodIn wsX0_takesBow wsX0_bowAllows := goodIn_r _ [6, 7, 8, 9, 10, 5, 11, 12, 13, 14, 15, 16, 17, 18, 19, 20, 21, 22, 23, 24, 25, 26, 27, 28, 29, 30, 31, 32, 33, 34, 35, 36, 37, 38, 39, 40, 41, 42, 43, 44, 45, 46, 47, 48, 49, 50, 51, 52] (by decide +kernel) (by decide +kernel)
set_option maxRecDepth 20000 in
theorem gX0_takesBow_X0_bowAllows : GoodIn wsX0_takesBow (wsV RX0 54 RX0 yX0_bowAllows wsX0_bowAllows) := goodIn_app (goodIn_of _ (by decide +kernel)) ggX0_takesBow_X0_bowAllows
theorem dX0_takesBow_0 : decode cX0_takesBow 0 = .ok (.iconst 0, 1) := by decide +kernel
theorem dX0_takesBow_1 : decode cX0_takesBow 1 = .ok (.istore_n 2, 1) := by decide +kernel
theorem dX0_takesBow_2 : decode cX0_takesBow 2 = .ok (.iconst 0, 1) := by decide +kernel
theorem dX0_takesBow_3 : decode cX0_takesBow 3 = .ok (.istore_n 3, 1) := by decide +kernel
theorem dX0_takesBow_4 : decode cX0_takesBow 4 = .ok (.iload_n 3, 1) := by decide +kernel
theorem dX0_takesBow_5 : decode cX0_takesBow 5 = .ok (.bipush 48, 2) := by decide +kernel
theorem dX0_takesBow_7 : decode cX0_takesBow 7 = .ok (.if_icmp .ge 43, 3) := by decide +kernel
theorem dX0_takesBow_10 : decode cX0_takesBow 10 = .ok (.aload_n 0, 1) := by decide +kernel
theorem dX0_takesBow_11 : decode cX0_takesBow 11 = .ok (.getfield 19, 3) := by decide +kernel
theorem dX0_takesBow_14 : decode cX0_takesBow 14 = .ok (.iload_n 3, 1) := by decide +kernel
theorem dX0_takesBow_15 : decode cX0_takesBow 15 = .ok (.baload, 1) := by decide +kernel
theorem dX0_takesBow_16 : decode cX0_takesBow 16 = .ok (.ifCond .ne 28, 3) := by decide +kernel
theorem dX0_takesBow_19 : decode cX0_takesBow 19 = .ok (.aload_n 0, 1) := by decide +kernel
theorem dX0_takesBow_20 : decode cX0_takesBow 20 = .ok (.iload_n 1, 1) := by decide +kernel
theorem dX0_takesBow_21 : decode cX0_takesBow 21 = .ok (.iload_n 3, 1) := by decide +kernel
theorem dX0_takesBow_22 : decode cX0_takesBow 22 = .ok (.bipush 12, 2) := by decide +kernel
theorem dX0_takesBow_24 : decode cX0_takesBow 24 = .ok (.idiv, 1) := by decide +kernel
theorem dX0_takesBow_25 : decode cX0_takesBow 25 = .ok (.iload_n 3, 1) := by decide +kernel
theorem dX0_takesBow_26 : decode cX0_takesBow 26 = .ok (.bipush 12, 2) := by decide +kernel
theorem dX0_takesBow_28 : decode cX0_takesBow 28 = .ok (.irem, 1) := by decide +kernel
theorem dX0_takesBow_29 : decode cX0_takesBow 29 = .ok (.invokevirtual 54, 3) := by decide +kernel
theorem dX0_takesBow_32 : decode cX0_takesBow 32 = .ok (.ifCond .eq 12, 3) := by decide +kernel
theorem dX0_takesBow_35 : decode cX0_takesBow 35 = .ok (.aload_n 0, 1) := by decide +kernel
theorem dX0_takesBow_36 : decode cX0_takesBow 36 = .ok (.getfield 19, 3) := by decide +kernel
theorem dX0_takesBow_39 : decode cX0_takesBow 39 = .ok (.iload_n 3, 1) := by decide +kernel
theorem dX0_takesBow_40 : decode cX0_takesBow 40 = .ok (.iconst 1, 1) := by decide +kernel
theorem dX0_takesBow_41 : decode cX0_takesBow 41 = .ok (.bastore, 1) := by decide +kernel
theorem dX0_takesBow_42 : decode cX0_takesBow 42 = .ok (.iconst 1, 1) := by decide +kernel
theorem dX0_takesBow_43 : decode cX0_takesBow 43 = .ok (.istore_n 2, 1) := by decide +kernel
theorem dX0_takesBow_44 : decode cX0_takesBow 44 = .ok (.iinc 3 1, 3) := by decide +kernel
theorem dX0_takesBow_47 : decode cX0_takesBow 47 = .ok (.goto (-43), 3) := by decide +kernel
theorem dX0_takesBow_50 : decode cX0_takesBow 50 = .ok (.iload_n 2, 1) := by decide +kernel
theorem dX0_takesBow_51 : decode cX0_takesBow 51 = .ok (.ireturn, 1) := by decide +kernel
theorem dX1_init_0 : decode cX1_init 0 = .ok (.aload_n 0, 1) := by decide +kernel
theorem dX1_init_1 : decode cX1_init 1 = .ok (.invokespecial 3, 3) := by decide +kernel
theorem dX1_init_4 : decode cX1_init 4 = .ok (.aload_n 0, 1) := by decide +kernel
theorem dX1_init_5 : decode cX1_init 5 = .ok (.sipush 144, 3) := by decide +kernel
theorem dX1_init_8 : decode cX1_init 8 = .ok (.newarray .boolean, 2) := by decide +kernel
theorem dX1_init_10 : decode cX1_init 10 = .ok (.putfield 9, 3) := by decide +kernel
theorem dX1_init_13 : decode cX1_init 13 = .ok (.aload_n 0, 1) := by decide +kernel
theorem dX1_init_14 : decode cX1_init 14 = .ok (.sipush 144, 3) := by decide +kernel
theorem dX1_init_17 : decode cX1_init 17 = .ok (.newarray .int, 2) := by decide +kernel
theorem dX1_init_19 : decode cX1_init 19 = .ok (.putfield 15, 3) := by decide +kernel
theorem dX1_init_22 : decode cX1_init 22 = .ok (.aload_n 0, 1) := by decide +kernel
theorem dX1_init_23 : decode cX1_init 23 = .ok (.iconst 0, 1) := by decide +kernel
theorem dX1_init_24 : decode cX1_init 24 = .ok (.putfield 19, 3) := by decide +kernel
theorem dX1_init_27 : decode cX1_init 27 = .ok (.aload_n 0, 1) := by decide +kernel
theorem dX1_init_28 : decode cX1_init 28 = .ok (.aload_n 1, 1) := by decide +kernel
theorem dX1_init_29 : decode cX1_init 29 = .ok (.putfield 23, 3) := by decide +kernel
theorem dX1_init_32 : decode cX1_init 32 = .ok (.aload_n 0, 1) := by decide +kernel
theorem dX1_init_33 : decode cX1_init 33 = .ok (.aload_n 2, 1) := by decide +kernel
theorem dX1_init_34 : decode cX1_init 34 = .ok (.putfield 27, 3) := by decide +kernel
theorem dX1_init_37 : decode cX1_init 37 = .ok (.return_, 1) := by decide +kernel
set_option maxRecDepth 20000 in
theorem ggX1_isStill_X7_swingAt : GoodIn wsX1_isStill wsX7_swingAt := goodIn_r _ [7, 8, 9, 10, 11, 12, 13, 14, 15, 16, 17, 18, 19, 20, 38, 39, 40, 41, 42] (by decide +kernel) (by decide +kernel)
set_option maxRecDepth 20000 in
theorem gX1_isStill_X7_swingAt : GoodIn wsX1_isStill (wsV RX1 31 RX7 yX7_swingAt wsX7_swingAt) := goodIn_app (goodIn_of _ (by decide +kernel)) ggX1_isStill_X7_swingAt
theorem dX1_isStill_0 : decode cX1_isStill 0 = .ok (.aload_n 0, 1) := by decide +kernel
theorem dX1_isStill_1 : decode cX1_isStill 1 = .ok (.getfield 23, 3) := by decide +kernel
theorem dX1_isStill_4 : decode cX1_isStill 4 = .ok (.iload_n 1, 1) := by decide +kernel
theorem dX1_isStill_5 : decode cX1_isStill 5 = .ok (.iload_n 2, 1) := by decide +kernel
theorem dX1_isStill_6 : decode cX1_isStill 6 = .ok (.iload_n 3, 1) := by decide +kernel
theorem dX1_isStill_7 : decode cX1_isStill 7 = .ok (.invokevirtual 31, 3) := by decide +kernel
theorem dX1_isStill_10 : decode cX1_isStill 10 = .ok (.aload_n 0, 1) := by decide +kernel
theorem dX1_isStill_11 : decode cX1_isStill 11 = .ok (.getfield 27, 3) := by decide +kernel
theorem dX1_isStill_14 : decode cX1_isStill 14 = .ok (.getfield 37, 3) := by decide +kernel
theorem dX1_isStill_17 : decode cX1_isStill 17 = .ok (.iconst 2, 1) := by decide +kernel
theorem dX1_isStill_18 : decode cX1_isStill 18 = .ok (.iaload, 1) := by decide +kernel
theorem dX1_isStill_19 : decode cX1_isStill 19 = .ok (.if_icmp .gt 7, 3) := by decide +kernel
theorem dX1_isStill_22 : decode cX1_isStill 22 = .ok (.iconst 1, 1) := by decide +kernel
theorem dX1_isStill_23 : decode cX1_isStill 23 = .ok (.goto 4, 3) := by decide +kernel
theorem dX1_isStill_26 : decode cX1_isStill 26 = .ok (.iconst 0, 1) := by decide +kernel
theorem dX1_isStill_27 : decode cX1_isStill 27 = .ok (.ireturn, 1) := by decide +kernel
set_option maxRecDepth 20000 in
theorem ggX1_stillPlaces_X8_columnOf : GoodIn wsX1_stillPlaces wsX8_columnOf := goodIn_r _ [3] (by decide +kernel) (by decide +kernel)
set_option maxRecDepth 20000 in
theorem gX1_stillPlaces_X8_columnOf_n42 : GoodIn wsX1_stillPlaces (wsX8_columnOf) := ggX1_stillPlaces_X8_columnOf
set_option maxRecDepth 20000 in
theorem ggX1_stillPlaces_X8_rowOf : GoodIn wsX1_stillPlaces wsX8_rowOf := goodIn_r _ [5] (by decide +kernel) (by decide +kernel)
set_option maxRecDepth 20000 in
theorem gX1_stillPlaces_X8_rowOf_n46 : GoodIn wsX1_stillPlaces (wsX8_rowOf) := ggX1_stillPlaces_X8_rowOf
set_option maxRecDepth 20000 in
theorem ggX1_stillPlaces_X1_isStill : GoodIn wsX1_stillPlaces wsX1_isStill := goodIn_r _ [10, 11, 12, 13, 14, 15, 16, 17, 18, 19, 20, 21, 22, 23, 24, 25, 26, 2, 27, 28, 29, 30, 31, 32, 33, 34, 35, 36, 37, 38, 39, 40, 41, 42, 43, 44, 45, 46, 47, 48, 49, 50, 51] (by decide +kernel) (by decide +kernel)
set_option maxRecDepth 20000 in
theorem gX1_stillPlaces_X1_isStill : GoodIn wsX1_stillPlaces (wsV RX1 49 RX1 yX1_isStill wsX1_isStill) := goodIn_app (goodIn_of _ (by decide +kernel)) ggX1_stillPlaces_X1_isStill
theorem dX1_stillPlaces_0 : decode cX1_stillPlaces 0 = .ok (.iconst 0, 1) := by decide +kernel
theorem dX1_stillPlaces_1 : decode cX1_stillPlaces 1 = .ok (.istore_n 2, 1) := by decide +kernel
theorem dX1_stillPlaces_2 : decode cX1_stillPlaces 2 = .ok (.iconst 0, 1) := by decide +kernel
theorem dX1_stillPlaces_3 : decode cX1_stillPlaces 3 = .ok (.istore_n 3, 1) := by decide +kernel
theorem dX1_stillPlaces_4 : decode cX1_stillPlaces 4 = .ok (.iload_n 3, 1) := by decide +kernel
theorem dX1_stillPlaces_5 : decode cX1_stillPlaces 5 = .ok (.sipush 144, 3) := by decide +kernel
theorem dX1_stillPlaces_8 : decode cX1_stillPlaces 8 = .ok (.if_icmp .ge 28, 3) := by decide +kernel
theorem dX1_stillPlaces_11 : decode cX1_stillPlaces 11 = .ok (.aload_n 0, 1) := by decide +kernel
theorem dX1_stillPlaces_12 : decode cX1_stillPlaces 12 = .ok (.iload_n 1, 1) := by decide +kernel
theorem dX1_stillPlaces_13 : decode cX1_stillPlaces 13 = .ok (.iload_n 3, 1) := by decide +kernel
theorem dX1_stillPlaces_14 : decode cX1_stillPlaces 14 = .ok (.invokestatic 42, 3) := by decide +kernel
theorem dX1_stillPlaces_17 : decode cX1_stillPlaces 17 = .ok (.iload_n 3, 1) := by decide +kernel
theorem dX1_stillPlaces_18 : decode cX1_stillPlaces 18 = .ok (.invokestatic 46, 3) := by decide +kernel
theorem dX1_stillPlaces_21 : decode cX1_stillPlaces 21 = .ok (.invokevirtual 49, 3) := by decide +kernel
theorem dX1_stillPlaces_24 : decode cX1_stillPlaces 24 = .ok (.ifCond .eq 6, 3) := by decide +kernel
theorem dX1_stillPlaces_27 : decode cX1_stillPlaces 27 = .ok (.iinc 2 1, 3) := by decide +kernel
theorem dX1_stillPlaces_30 : decode cX1_stillPlaces 30 = .ok (.iinc 3 1, 3) := by decide +kernel
theorem dX1_stillPlaces_33 : decode cX1_stillPlaces 33 = .ok (.goto (-29), 3) := by decide +kernel
theorem dX1_stillPlaces_36 : decode cX1_stillPlaces 36 = .ok (.iload_n 2, 1) := by decide +kernel
theorem dX1_stillPlaces_37 : decode cX1_stillPlaces 37 = .ok (.ireturn, 1) := by decide +kernel
set_option maxRecDepth 20000 in
theorem ggX1_grainsOnLines_X8_columnOf : GoodIn wsX1_grainsOnLines wsX8_columnOf := goodIn_r _ [4] (by decide +kernel) (by decide +kernel)
set_option maxRecDepth 20000 in
theorem gX1_grainsOnLines_X8_columnOf_n42 : GoodIn wsX1_grainsOnLines (wsX8_columnOf) := ggX1_grainsOnLines_X8_columnOf
set_option maxRecDepth 20000 in
theorem ggX1_grainsOnLines_X8_rowOf : GoodIn wsX1_grainsOnLines wsX8_rowOf := goodIn_r _ [6] (by decide +kernel) (by decide +kernel)
set_option maxRecDepth 20000 in
theorem gX1_grainsOnLines_X8_rowOf_n46 : GoodIn wsX1_grainsOnLines (wsX8_rowOf) := ggX1_grainsOnLines_X8_rowOf
set_option maxRecDepth 20000 in
theorem ggX1_grainsOnLines_X1_isStill : GoodIn wsX1_grainsOnLines wsX1_isStill := goodIn_r _ [11, 12, 1, 13, 14, 15, 16, 17, 18, 19, 20, 21, 22, 23, 24, 25, 26, 3, 27, 28, 29, 30, 31, 32, 33, 34, 35, 36, 37, 38, 39, 40, 41, 42, 43, 44, 45, 46, 47, 48, 49, 50, 51] (by decide +kernel) (by decide +kernel)
set_option maxRecDepth 20000 in
theorem gX1_grainsOnLines_X1_isStill : GoodIn wsX1_grainsOnLines (wsV RX1 49 RX1 yX1_isStill wsX1_isStill) := goodIn_app (goodIn_of _ (by decide +kernel)) ggX1_grainsOnLines_X1_isStill
theorem dX1_grainsOnLines_0 : decode cX1_grainsOnLines 0 = .ok (.iconst 0, 1) := by decide +kernel
theorem dX1_grainsOnLines_1 : decode cX1_grainsOnLines 1 = .ok (.istore_n 2, 1) := by decide +kernel
theorem dX1_grainsOnLines_2 : decode cX1_grainsOnLines 2 = .ok (.iconst 0, 1) := by decide +kernel
theorem dX1_grainsOnLines_3 : decode cX1_grainsOnLines 3 = .ok (.istore_n 3, 1) := by decide +kernel
theorem dX1_grainsOnLines_4 : decode cX1_grainsOnLines 4 = .ok (.iload_n 3, 1) := by decide +kernel
theorem dX1_grainsOnLines_5 : decode cX1_grainsOnLines 5 = .ok (.sipush 144, 3) := by decide +kernel
theorem dX1_grainsOnLines_8 : decode cX1_grainsOnLines 8 = .ok (.if_icmp .ge 37, 3) := by decide +kernel
theorem dX1_grainsOnLines_11 : decode cX1_grainsOnLines 11 = .ok (.aload_n 0, 1) := by decide +kernel
theorem dX1_grainsOnLines_12 : decode cX1_grainsOnLines 12 = .ok (.iload_n 1, 1) := by decide +kernel
theorem dX1_grainsOnLines_13 : decode cX1_grainsOnLines 13 = .ok (.iload_n 3, 1) := by decide +kernel
theorem dX1_grainsOnLines_14 : decode cX1_grainsOnLines 14 = .ok (.invokestatic 42, 3) := by decide +kernel
theorem dX1_grainsOnLines_17 : decode cX1_grainsOnLines 17 = .ok (.iload_n 3, 1) := by decide +kernel
theorem dX1_grainsOnLines_18 : decode cX1_grainsOnLines 18 = .ok (.invokestatic 46, 3) := by decide +kernel
theorem dX1_grainsOnLines_21 : decode cX1_grainsOnLines 21 = .ok (.invokevirtual 49, 3) := by decide +kernel
theorem dX1_grainsOnLines_24 : decode cX1_grainsOnLines 24 = .ok (.ifCond .eq 15, 3) := by decide +kernel
theorem dX1_grainsOnLines_27 : decode cX1_grainsOnLines 27 = .ok (.iload_n 2, 1) := by decide +kernel
theorem dX1_grainsOnLines_28 : decode cX1_grainsOnLines 28 = .ok (.aload_n 0, 1) := by decide +kernel
theorem dX1_grainsOnLines_29 : decode cX1_grainsOnLines 29 = .ok (.getfield 27, 3) := by decide +kernel
theorem dX1_grainsOnLines_32 : decode cX1_grainsOnLines 32 = .ok (.getfield 53, 3) := by decide +kernel
theorem dX1_grainsOnLines_35 : decode cX1_grainsOnLines 35 = .ok (.iload_n 3, 1) := by decide +kernel
theorem dX1_grainsOnLines_36 : decode cX1_grainsOnLines 36 = .ok (.iaload, 1) := by decide +kernel
theorem dX1_grainsOnLines_37 : decode cX1_grainsOnLines 37 = .ok (.iadd, 1) := by decide +kernel
theorem dX1_grainsOnLines_38 : decode cX1_grainsOnLines 38 = .ok (.istore_n 2, 1) := by decide +kernel
theorem dX1_grainsOnLines_39 : decode cX1_grainsOnLines 39 = .ok (.iinc 3 1, 3) := by decide +kernel
theorem dX1_grainsOnLines_42 : decode cX1_grainsOnLines 42 = .ok (.goto (-38), 3) := by decide +kernel
theorem dX1_grainsOnLines_45 : decode cX1_grainsOnLines 45 = .ok (.iload_n 2, 1) := by decide +kernel
theorem dX1_grainsOnLines_46 : decode cX1_grainsOnLines 46 = .ok (.ireturn, 1) := by decide +kernel
set_option maxRecDepth 20000 in
theorem ggX1_lines_X8_columnOf : GoodIn wsX1_lines wsX8_columnOf := goodIn_r _ [4] (by decide +kernel) (by decide +kernel)
set_option maxRecDepth 20000 in
theorem gX1_lines_X8_columnOf_n42 : GoodIn wsX1_lines (wsX8_columnOf) := ggX1_lines_X8_columnOf
set_option maxRecDepth 20000 in
theorem ggX1_lines_X8_rowOf : GoodIn wsX1_lines wsX8_rowOf := goodIn_r _ [6] (by decide +kernel) (by decide +kernel)
set_option maxRecDepth 20000 in
theorem gX1_lines_X8_rowOf_n46 : GoodIn wsX1_lines (wsX8_rowOf) := ggX1_lines_X8_rowOf
set_option maxRecDepth 20000 in
theorem ggX1_lines_X1_isStill : GoodIn wsX1_lines wsX1_isStill := goodIn_r _ [11, 12, 13, 14, 15, 16, 17, 18, 19, 20, 21, 22, 23, 24, 25, 26, 27, 3, 28, 29, 30, 43, 44, 45, 46, 47, 48, 49, 50, 51, 52, 53, 54, 55, 56, 57, 58, 59, 60, 61, 62, 63, 64] (by decide +kernel) (by decide +kernel)
set_option maxRecDepth 20000 in
theorem gX1_lines_X1_isStill : GoodIn wsX1_lines (wsV RX1 49 RX1 yX1_isStill wsX1_isStill) := goodIn_app (goodIn_of _ (by decide +kernel)) ggX1_lines_X1_isStill
set_option maxRecDepth 20000 in
theorem ggX1_lines_X1_closeLine : GoodIn wsX1_lines wsX1_closeLine := goodIn_r _ [34, 35, 36, 2, 3, 4, 5, 6, 37, 38, 39, 10, 40, 1, 29, 30, 41, 42, 43, 44, 45, 46, 47] (by decide +kernel) (by decide +kernel)
set_option maxRecDepth 20000 in
theorem gX1_lines_X1_closeLine : GoodIn wsX1_lines (wsV RX1 56 RX1 yX1_closeLine wsX1_closeLine) := goodIn_app (goodIn_of _ (by decide +kernel)) ggX1_lines_X1_closeLine
theorem dX1_lines_0 : decode cX1_lines 0 = .ok (.iconst 0, 1) := by decide +kernel
theorem dX1_lines_1 : decode cX1_lines 1 = .ok (.istore_n 2, 1) := by decide +kernel
theorem dX1_lines_2 : decode cX1_lines 2 = .ok (.iload_n 2, 1) := by decide +kernel
theorem dX1_lines_3 : decode cX1_lines 3 = .ok (.sipush 144, 3) := by decide +kernel
theorem dX1_lines_6 : decode cX1_lines 6 = .ok (.if_icmp .ge 28, 3) := by decide +kernel
theorem dX1_lines_9 : decode cX1_lines 9 = .ok (.aload_n 0, 1) := by decide +kernel
theorem dX1_lines_10 : decode cX1_lines 10 = .ok (.getfield 9, 3) := by decide +kernel
theorem dX1_lines_13 : decode cX1_lines 13 = .ok (.iload_n 2, 1) := by decide +kernel
theorem dX1_lines_14 : decode cX1_lines 14 = .ok (.aload_n 0, 1) := by decide +kernel
theorem dX1_lines_15 : decode cX1_lines 15 = .ok (.iload_n 1, 1) := by decide +kernel
theorem dX1_lines_16 : decode cX1_lines 16 = .ok (.iload_n 2, 1) := by decide +kernel
theorem dX1_lines_17 : decode cX1_lines 17 = .ok (.invokestatic 42, 3) := by decide +kernel
theorem dX1_lines_20 : decode cX1_lines 20 = .ok (.iload_n 2, 1) := by decide +kernel
theorem dX1_lines_21 : decode cX1_lines 21 = .ok (.invokestatic 46, 3) := by decide +kernel
theorem dX1_lines_24 : decode cX1_lines 24 = .ok (.invokevirtual 49, 3) := by decide +kernel
theorem dX1_lines_27 : decode cX1_lines 27 = .ok (.bastore, 1) := by decide +kernel
theorem dX1_lines_28 : decode cX1_lines 28 = .ok (.iinc 2 1, 3) := by decide +kernel
theorem dX1_lines_31 : decode cX1_lines 31 = .ok (.goto (-29), 3) := by decide +kernel
theorem dX1_lines_34 : decode cX1_lines 34 = .ok (.iconst 0, 1) := by decide +kernel
theorem dX1_lines_35 : decode cX1_lines 35 = .ok (.istore_n 2, 1) := by decide +kernel
theorem dX1_lines_36 : decode cX1_lines 36 = .ok (.iconst 0, 1) := by decide +kernel
theorem dX1_lines_37 : decode cX1_lines 37 = .ok (.istore_n 3, 1) := by decide +kernel
theorem dX1_lines_38 : decode cX1_lines 38 = .ok (.iload_n 3, 1) := by decide +kernel
theorem dX1_lines_39 : decode cX1_lines 39 = .ok (.sipush 144, 3) := by decide +kernel
theorem dX1_lines_42 : decode cX1_lines 42 = .ok (.if_icmp .ge 26, 3) := by decide +kernel
theorem dX1_lines_45 : decode cX1_lines 45 = .ok (.aload_n 0, 1) := by decide +kernel
theorem dX1_lines_46 : decode cX1_lines 46 = .ok (.getfield 9, 3) := by decide +kernel
theorem dX1_lines_49 : decode cX1_lines 49 = .ok (.iload_n 3, 1) := by decide +kernel
theorem dX1_lines_50 : decode cX1_lines 50 = .ok (.baload, 1) := by decide +kernel
theorem dX1_lines_51 : decode cX1_lines 51 = .ok (.ifCond .eq 11, 3) := by decide +kernel
theorem dX1_lines_54 : decode cX1_lines 54 = .ok (.iinc 2 1, 3) := by decide +kernel
theorem dX1_lines_57 : decode cX1_lines 57 = .ok (.aload_n 0, 1) := by decide +kernel
theorem dX1_lines_58 : decode cX1_lines 58 = .ok (.iload_n 3, 1) := by decide +kernel
theorem dX1_lines_59 : decode cX1_lines 59 = .ok (.invokevirtual 56, 3) := by decide +kernel
theorem dX1_lines_62 : decode cX1_lines 62 = .ok (.iinc 3 1, 3) := by decide +kernel
theorem dX1_lines_65 : decode cX1_lines 65 = .ok (.goto (-27), 3) := by decide +kernel
theorem dX1_lines_68 : decode cX1_lines 68 = .ok (.iload_n 2, 1) := by decide +kernel
theorem dX1_lines_69 : decode cX1_lines 69 = .ok (.ireturn, 1) := by decide +kernel
set_option maxRecDepth 20000 in
theorem ggX1_closeLine_X8_columnOf : GoodIn wsX1_closeLine wsX8_columnOf := goodIn_r _ [5] (by decide +kernel) (by decide +kernel)
set_option maxRecDepth 20000 in
theorem gX1_closeLine_X8_columnOf_n42 : GoodIn wsX1_closeLine (wsX8_columnOf) := ggX1_closeLine_X8_columnOf
set_option maxRecDepth 20000 in
theorem ggX1_closeLine_X8_rowOf : GoodIn wsX1_closeLine wsX8_rowOf := goodIn_r _ [7] (by decide +kernel) (by decide +kernel)
set_option maxRecDepth 20000 in
theorem gX1_closeLine_X8_rowOf_n46 : GoodIn wsX1_closeLine (wsX8_rowOf) := ggX1_closeLine_X8_rowOf
set_option maxRecDepth 20000 in
theorem ggX1_closeLine_X1_reach : GoodIn wsX1_closeLine wsX1_reach := goodIn_r _ [12, 13, 1, 2, 14, 4, 15, 16, 17, 18, 19, 20, 21, 22] (by decide +kernel) (by decide +kernel)
set_option maxRecDepth 20000 in
theorem gX1_closeLine_X1_reach : GoodIn wsX1_closeLine (wsV RX1 60 RX1 yX1_reach wsX1_reach) := goodIn_app (goodIn_of _ (by decide +kernel)) ggX1_closeLine_X1_reach
theorem dX1_closeLine_0 : decode cX1_closeLine 0 = .ok (.aload_n 0, 1) := by decide +kernel
theorem dX1_closeLine_1 : decode cX1_closeLine 1 = .ok (.iconst 0, 1) := by decide +kernel
theorem dX1_closeLine_2 : decode cX1_closeLine 2 = .ok (.putfield 19, 3) := by decide +kernel
theorem dX1_closeLine_5 : decode cX1_closeLine 5 = .ok (.aload_n 0, 1) := by decide +kernel
theorem dX1_closeLine_6 : decode cX1_closeLine 6 = .ok (.iload_n 1, 1) := by decide +kernel
theorem dX1_closeLine_7 : decode cX1_closeLine 7 = .ok (.invokestatic 42, 3) := by decide +kernel
theorem dX1_closeLine_10 : decode cX1_closeLine 10 = .ok (.iload_n 1, 1) := by decide +kernel
theorem dX1_closeLine_11 : decode cX1_closeLine 11 = .ok (.invokestatic 46, 3) := by decide +kernel
theorem dX1_closeLine_14 : decode cX1_closeLine 14 = .ok (.invokevirtual 60, 3) := by decide +kernel
theorem dX1_closeLine_17 : decode cX1_closeLine 17 = .ok (.iconst 0, 1) := by decide +kernel
theorem dX1_closeLine_18 : decode cX1_closeLine 18 = .ok (.istore_n 2, 1) := by decide +kernel
theorem dX1_closeLine_19 : decode cX1_closeLine 19 = .ok (.iload_n 2, 1) := by decide +kernel
theorem dX1_closeLine_20 : decode cX1_closeLine 20 = .ok (.aload_n 0, 1) := by decide +kernel
theorem dX1_closeLine_21 : decode cX1_closeLine 21 = .ok (.getfield 19, 3) := by decide +kernel
theorem dX1_closeLine_24 : decode cX1_closeLine 24 = .ok (.if_icmp .ge 73, 3) := by decide +kernel
theorem dX1_closeLine_27 : decode cX1_closeLine 27 = .ok (.iload_n 2, 1) := by decide +kernel
theorem dX1_closeLine_28 : decode cX1_closeLine 28 = .ok (.sipush 144, 3) := by decide +kernel
theorem dX1_closeLine_31 : decode cX1_closeLine 31 = .ok (.if_icmp .ge 66, 3) := by decide +kernel
theorem dX1_closeLine_34 : decode cX1_closeLine 34 = .ok (.aload_n 0, 1) := by decide +kernel
theorem dX1_closeLine_35 : decode cX1_closeLine 35 = .ok (.getfield 15, 3) := by decide +kernel
theorem dX1_closeLine_38 : decode cX1_closeLine 38 = .ok (.iload_n 2, 1) := by decide +kernel
theorem dX1_closeLine_39 : decode cX1_closeLine 39 = .ok (.iaload, 1) := by decide +kernel
theorem dX1_closeLine_40 : decode cX1_closeLine 40 = .ok (.invokestatic 42, 3) := by decide +kernel
theorem dX1_closeLine_43 : decode cX1_closeLine 43 = .ok (.istore_n 3, 1) := by decide +kernel
theorem dX1_closeLine_44 : decode cX1_closeLine 44 = .ok (.aload_n 0, 1) := by decide +kernel
theorem dX1_closeLine_45 : decode cX1_closeLine 45 = .ok (.getfield 15, 3) := by decide +kernel
theorem dX1_closeLine_48 : decode cX1_closeLine 48 = .ok (.iload_n 2, 1) := by decide +kernel
theorem dX1_closeLine_49 : decode cX1_closeLine 49 = .ok (.iaload, 1) := by decide +kernel
theorem dX1_closeLine_50 : decode cX1_closeLine 50 = .ok (.invokestatic 46, 3) := by decide +kernel
theorem dX1_closeLine_53 : decode cX1_closeLine 53 = .ok (.istore 4, 2) := by decide +kernel
theorem dX1_closeLine_55 : decode cX1_closeLine 55 = .ok (.aload_n 0, 1) := by decide +kernel
theorem dX1_closeLine_56 : decode cX1_closeLine 56 = .ok (.iload_n 3, 1) := by decide +kernel
theorem dX1_closeLine_57 : decode cX1_closeLine 57 = .ok (.iload 4, 2) := by decide +kernel
theorem dX1_closeLine_59 : decode cX1_closeLine 59 = .ok (.iconst 1, 1) := by decide +kernel
theorem dX1_closeLine_60 : decode cX1_closeLine 60 = .ok (.isub, 1) := by decide +kernel
theorem dX1_closeLine_61 : decode cX1_closeLine 61 = .ok (.invokevirtual 60, 3) := by decide +kernel
theorem dX1_closeLine_64 : decode cX1_closeLine 64 = .ok (.aload_n 0, 1) := by decide +kernel
theorem dX1_closeLine_65 : decode cX1_closeLine 65 = .ok (.iload_n 3, 1) := by decide +kernel
theorem dX1_closeLine_66 : decode cX1_closeLine 66 = .ok (.iconst 1, 1) := by decide +kernel
theorem dX1_closeLine_67 : decode cX1_closeLine 67 = .ok (.isub, 1) := by decide +kernel
theorem dX1_closeLine_68 : decode cX1_closeLine 68 = .ok (.iload 4, 2) := by decide +kernel
theorem dX1_closeLine_70 : decode cX1_closeLine 70 = .ok (.invokevirtual 60, 3) := by decide +kernel
theorem dX1_closeLine_73 : decode cX1_closeLine 73 = .ok (.aload_n 0, 1) := by decide +kernel
theorem dX1_closeLine_74 : decode cX1_closeLine 74 = .ok (.iload_n 3, 1) := by decide +kernel
theorem dX1_closeLine_75 : decode cX1_closeLine 75 = .ok (.iconst 1, 1) := by decide +kernel
theorem dX1_closeLine_76 : decode cX1_closeLine 76 = .ok (.iadd, 1) := by decide +kernel
theorem dX1_closeLine_77 : decode cX1_closeLine 77 = .ok (.iload 4, 2) := by decide +kernel
theorem dX1_closeLine_79 : decode cX1_closeLine 79 = .ok (.invokevirtual 60, 3) := by decide +kernel
theorem dX1_closeLine_82 : decode cX1_closeLine 82 = .ok (.aload_n 0, 1) := by decide +kernel
theorem dX1_closeLine_83 : decode cX1_closeLine 83 = .ok (.iload_n 3, 1) := by decide +kernel
theorem dX1_closeLine_84 : decode cX1_closeLine 84 = .ok (.iload 4, 2) := by decide +kernel
theorem dX1_closeLine_86 : decode cX1_closeLine 86 = .ok (.iconst 1, 1) := by decide +kernel
theorem dX1_closeLine_87 : decode cX1_closeLine 87 = .ok (.iadd, 1) := by decide +kernel
theorem dX1_closeLine_88 : decode cX1_closeLine 88 = .ok (.invokevirtual 60, 3) := by decide +kernel
theorem dX1_closeLine_91 : decode cX1_closeLine 91 = .ok (.iinc 2 1, 3) := by decide +kernel
theorem dX1_closeLine_94 : decode cX1_closeLine 94 = .ok (.goto (-75), 3) := by decide +kernel
theorem dX1_closeLine_97 : decode cX1_closeLine 97 = .ok (.return_, 1) := by decide +kernel
set_option maxRecDepth 20000 in
theorem ggX1_reach_X8_isPlace : GoodIn wsX1_reach wsX8_isPlace := goodIn_r _ [6] (by decide +kernel) (by decide +kernel)
set_option maxRecDepth 20000 in
theorem gX1_reach_X8_isPlace_n64 : GoodIn wsX1_reach (wsX8_isPlace) := ggX1_reach_X8_isPlace
set_option maxRecDepth 20000 in
theorem ggX1_reach_X8_placeOf : GoodIn wsX1_reach wsX8_placeOf := goodIn_r _ [8] (by decide +kernel) (by decide +kernel)
set_option maxRecDepth 20000 in
theorem gX1_reach_X8_placeOf_n68 : GoodIn wsX1_reach (wsX8_placeOf) := ggX1_reach_X8_placeOf
theorem dX1_reach_0 : decode cX1_reach 0 = .ok (.iload_n 1, 1) := by decide +kernel
theorem dX1_reach_1 : decode cX1_reach 1 = .ok (.iload_n 2, 1) := by decide +kernel
theorem dX1_reach_2 : decode cX1_reach 2 = .ok (.invokestatic 64, 3) := by decide +kernel
theorem dX1_reach_5 : decode cX1_reach 5 = .ok (.ifCond .eq 61, 3) := by decide +kernel
theorem dX1_reach_8 : decode cX1_reach 8 = .ok (.aload_n 0, 1) := by decide +kernel
theorem dX1_reach_9 : decode cX1_reach 9 = .ok (.getfield 9, 3) := by decide +kernel
theorem dX1_reach_12 : decode cX1_reach 12 = .ok (.iload_n 1, 1) := by decide +kernel
theorem dX1_reach_13 : decode cX1_reach 13 = .ok (.iload_n 2, 1) := by decide +kernel
theorem dX1_reach_14 : decode cX1_reach 14 = .ok (.invokestatic 68, 3) := by decide +kernel
theorem dX1_reach_17 : decode cX1_reach 17 = .ok (.baload, 1) := by decide +kernel
theorem dX1_reach_18 : decode cX1_reach 18 = .ok (.ifCond .eq 48, 3) := by decide +kernel
theorem dX1_reach_21 : decode cX1_reach 21 = .ok (.aload_n 0, 1) := by decide +kernel
theorem dX1_reach_22 : decode cX1_reach 22 = .ok (.getfield 19, 3) := by decide +kernel
theorem dX1_reach_25 : decode cX1_reach 25 = .ok (.sipush 144, 3) := by decide +kernel
theorem dX1_reach_28 : decode cX1_reach 28 = .ok (.if_icmp .ge 38, 3) := by decide +kernel
theorem dX1_reach_31 : decode cX1_reach 31 = .ok (.aload_n 0, 1) := by decide +kernel
theorem dX1_reach_32 : decode cX1_reach 32 = .ok (.getfield 9, 3) := by decide +kernel
theorem dX1_reach_35 : decode cX1_reach 35 = .ok (.iload_n 1, 1) := by decide +kernel
theorem dX1_reach_36 : decode cX1_reach 36 = .ok (.iload_n 2, 1) := by decide +kernel
theorem dX1_reach_37 : decode cX1_reach 37 = .ok (.invokestatic 68, 3) := by decide +kernel
theorem dX1_reach_40 : decode cX1_reach 40 = .ok (.iconst 0, 1) := by decide +kernel
theorem dX1_reach_41 : decode cX1_reach 41 = .ok (.bastore, 1) := by decide +kernel
theorem dX1_reach_42 : decode cX1_reach 42 = .ok (.aload_n 0, 1) := by decide +kernel
theorem dX1_reach_43 : decode cX1_reach 43 = .ok (.getfield 15, 3) := by decide +kernel
theorem dX1_reach_46 : decode cX1_reach 46 = .ok (.aload_n 0, 1) := by decide +kernel
theorem dX1_reach_47 : decode cX1_reach 47 = .ok (.getfield 19, 3) := by decide +kernel
theorem dX1_reach_50 : decode cX1_reach 50 = .ok (.iload_n 1, 1) := by decide +kernel
theorem dX1_reach_51 : decode cX1_reach 51 = .ok (.iload_n 2, 1) := by decide +kernel
theorem dX1_reach_52 : decode cX1_reach 52 = .ok (.invokestatic 68, 3) := by decide +kernel
theorem dX1_reach_55 : decode cX1_reach 55 = .ok (.iastore, 1) := by decide +kernel
theorem dX1_reach_56 : decode cX1_reach 56 = .ok (.aload_n 0, 1) := by decide +kernel
theorem dX1_reach_57 : decode cX1_reach 57 = .ok (.dup, 1) := by decide +kernel
theorem dX1_reach_58 : decode cX1_reach 58 = .ok (.getfield 19, 3) := by decide +kernel
theorem dX1_reach_61 : decode cX1_reach 61 = .ok (.iconst 1, 1) := by decide +kernel
theorem dX1_reach_62 : decode cX1_reach 62 = .ok (.iadd, 1) := by decide +kernel
theorem dX1_reach_63 : decode cX1_reach 63 = .ok (.putfield 19, 3) := by decide +kernel
theorem dX1_reach_66 : decode cX1_reach 66 = .ok (.return_, 1) := by decide +kernel
set_option maxRecDepth 20000 in
theorem ggX2_init_X5_init : GoodIn wsX2_init wsX5_init := goodIn_r _ [12, 13, 2, 3, 14, 15, 16, 17, 18, 19, 20, 21, 22, 23, 24, 25, 26, 27, 28, 29, 30, 31, 32, 33, 34, 35, 36, 37, 38, 39, 40, 41, 42, 43, 44, 45, 46, 47, 48, 49, 9, 50, 54, 55, 56, 57, 58, 59, 60, 61, 62, 63, 64, 65, 66, 67, 68, 69, 70] (by decide +kernel) (by decide +kernel)
set_option maxRecDepth 20000 in
theorem gX2_init_X5_init : GoodIn wsX2_init (wsX5_init) := ggX2_init_X5_init
theorem dX2_init_0 : decode cX2_init 0 = .ok (.aload_n 0, 1) := by decide +kernel
theorem dX2_init_1 : decode cX2_init 1 = .ok (.invokespecial 3, 3) := by decide +kernel
theorem dX2_init_4 : decode cX2_init 4 = .ok (.aload_n 0, 1) := by decide +kernel
theorem dX2_init_5 : decode cX2_init 5 = .ok (.iconst 4, 1) := by decide +kernel
theorem dX2_init_6 : decode cX2_init 6 = .ok (.anewarray 9, 3) := by decide +kernel
theorem dX2_init_9 : decode cX2_init 9 = .ok (.putfield 11, 3) := by decide +kernel
theorem dX2_init_12 : decode cX2_init 12 = .ok (.aload_n 0, 1) := by decide +kernel
theorem dX2_init_13 : decode cX2_init 13 = .ok (.iconst 0, 1) := by decide +kernel
theorem dX2_init_14 : decode cX2_init 14 = .ok (.putfield 17, 3) := by decide +kernel
theorem dX2_init_17 : decode cX2_init 17 = .ok (.aload_n 0, 1) := by decide +kernel
theorem dX2_init_18 : decode cX2_init 18 = .ok (.iconst 0, 1) := by decide +kernel
theorem dX2_init_19 : decode cX2_init 19 = .ok (.putfield 21, 3) := by decide +kernel
theorem dX2_init_22 : decode cX2_init 22 = .ok (.iconst 0, 1) := by decide +kernel
theorem dX2_init_23 : decode cX2_init 23 = .ok (.istore_n 1, 1) := by decide +kernel
theorem dX2_init_24 : decode cX2_init 24 = .ok (.iload_n 1, 1) := by decide +kernel
theorem dX2_init_25 : decode cX2_init 25 = .ok (.iconst 4, 1) := by decide +kernel
theorem dX2_init_26 : decode cX2_init 26 = .ok (.if_icmp .ge 22, 3) := by decide +kernel
theorem dX2_init_29 : decode cX2_init 29 = .ok (.aload_n 0, 1) := by decide +kernel
theorem dX2_init_30 : decode cX2_init 30 = .ok (.getfield 11, 3) := by decide +kernel
theorem dX2_init_33 : decode cX2_init 33 = .ok (.iload_n 1, 1) := by decide +kernel
theorem dX2_init_34 : decode cX2_init 34 = .ok (.new 9, 3) := by decide +kernel
theorem dX2_init_37 : decode cX2_init 37 = .ok (.dup, 1) := by decide +kernel
theorem dX2_init_38 : decode cX2_init 38 = .ok (.invokespecial 24, 3) := by decide +kernel
theorem dX2_init_41 : decode cX2_init 41 = .ok (.aastore, 1) := by decide +kernel
theorem dX2_init_42 : decode cX2_init 42 = .ok (.iinc 1 1, 3) := by decide +kernel
theorem dX2_init_45 : decode cX2_init 45 = .ok (.goto (-21), 3) := by decide +kernel
theorem dX2_init_48 : decode cX2_init 48 = .ok (.return_, 1) := by decide +kernel
set_option maxRecDepth 20000 in
theorem ggX2_record_X5_copyFrom : GoodIn wsX2_record wsX5_copyFrom := goodIn_r _ [8, 9, 10, 11, 12, 13, 14, 15, 16, 17, 18, 19, 20, 21, 22, 23, 24, 25, 26, 27, 28, 29, 30, 31, 32, 33, 34, 35, 36, 37, 38, 39, 40, 41, 42, 46, 47, 48, 49, 50, 51, 52, 53, 54, 55, 56, 57, 58, 59, 60, 61, 62] (by decide +kernel) (by decide +kernel)
set_option maxRecDepth 20000 in
theorem gX2_record_X5_copyFrom : GoodIn wsX2_record (wsV RX2 25 RX5 yX5_copyFrom wsX5_copyFrom) := goodIn_app (goodIn_of _ (by decide +kernel)) ggX2_record_X5_copyFrom
theorem dX2_record_0 : decode cX2_record 0 = .ok (.aload_n 0, 1) := by decide +kernel
theorem dX2_record_1 : decode cX2_record 1 = .ok (.getfield 21, 3) := by decide +kernel
theorem dX2_record_4 : decode cX2_record 4 = .ok (.iconst 4, 1) := by decide +kernel
theorem dX2_record_5 : decode cX2_record 5 = .ok (.if_icmp .ne 25, 3) := by decide +kernel
theorem dX2_record_8 : decode cX2_record 8 = .ok (.aload_n 0, 1) := by decide +kernel
theorem dX2_record_9 : decode cX2_record 9 = .ok (.aload_n 0, 1) := by decide +kernel
theorem dX2_record_10 : decode cX2_record 10 = .ok (.getfield 17, 3) := by decide +kernel
theorem dX2_record_13 : decode cX2_record 13 = .ok (.iconst 1, 1) := by decide +kernel
theorem dX2_record_14 : decode cX2_record 14 = .ok (.iadd, 1) := by decide +kernel
theorem dX2_record_15 : decode cX2_record 15 = .ok (.iconst 4, 1) := by decide +kernel
theorem dX2_record_16 : decode cX2_record 16 = .ok (.irem, 1) := by decide +kernel
theorem dX2_record_17 : decode cX2_record 17 = .ok (.putfield 17, 3) := by decide +kernel
theorem dX2_record_20 : decode cX2_record 20 = .ok (.aload_n 0, 1) := by decide +kernel
theorem dX2_record_21 : decode cX2_record 21 = .ok (.dup, 1) := by decide +kernel
theorem dX2_record_22 : decode cX2_record 22 = .ok (.getfield 21, 3) := by decide +kernel
theorem dX2_record_25 : decode cX2_record 25 = .ok (.iconst 1, 1) := by decide +kernel
theorem dX2_record_26 : decode cX2_record 26 = .ok (.isub, 1) := by decide +kernel
theorem dX2_record_27 : decode cX2_record 27 = .ok (.putfield 21, 3) := by decide +kernel
theorem dX2_record_30 : decode cX2_record 30 = .ok (.aload_n 0, 1) := by decide +kernel
theorem dX2_record_31 : decode cX2_record 31 = .ok (.getfield 11, 3) := by decide +kernel
theorem dX2_record_34 : decode cX2_record 34 = .ok (.aload_n 0, 1) := by decide +kernel
theorem dX2_record_35 : decode cX2_record 35 = .ok (.getfield 17, 3) := by decide +kernel
theorem dX2_record_38 : decode cX2_record 38 = .ok (.aload_n 0, 1) := by decide +kernel
theorem dX2_record_39 : decode cX2_record 39 = .ok (.getfield 21, 3) := by decide +kernel
theorem dX2_record_42 : decode cX2_record 42 = .ok (.iadd, 1) := by decide +kernel
theorem dX2_record_43 : decode cX2_record 43 = .ok (.iconst 4, 1) := by decide +kernel
theorem dX2_record_44 : decode cX2_record 44 = .ok (.irem, 1) := by decide +kernel
theorem dX2_record_45 : decode cX2_record 45 = .ok (.aaload, 1) := by decide +kernel
theorem dX2_record_46 : decode cX2_record 46 = .ok (.astore_n 2, 1) := by decide +kernel
theorem dX2_record_47 : decode cX2_record 47 = .ok (.aload_n 2, 1) := by decide +kernel
theorem dX2_record_48 : decode cX2_record 48 = .ok (.ifnull 18, 3) := by decide +kernel
theorem dX2_record_51 : decode cX2_record 51 = .ok (.aload_n 2, 1) := by decide +kernel
theorem dX2_record_52 : decode cX2_record 52 = .ok (.aload_n 1, 1) := by decide +kernel
theorem dX2_record_53 : decode cX2_record 53 = .ok (.invokevirtual 25, 3) := by decide +kernel
theorem dX2_record_56 : decode cX2_record 56 = .ok (.aload_n 0, 1) := by decide +kernel
theorem dX2_record_57 : decode cX2_record 57 = .ok (.dup, 1) := by decide +kernel
theorem dX2_record_58 : decode cX2_record 58 = .ok (.getfield 21, 3) := by decide +kernel
theorem dX2_record_61 : decode cX2_record 61 = .ok (.iconst 1, 1) := by decide +kernel
theorem dX2_record_62 : decode cX2_record 62 = .ok (.iadd, 1) := by decide +kernel
theorem dX2_record_63 : decode cX2_record 63 = .ok (.putfield 21, 3) := by decide +kernel
theorem dX2_record_66 : decode cX2_record 66 = .ok (.return_, 1) := by decide +kernel
set_option maxRecDepth 20000 in
theorem ggX2_takeLatest_X5_copyFrom : GoodIn wsX2_takeLatest wsX5_copyFrom := goodIn_r _ [8, 9, 10, 11, 12, 13, 14, 15, 16, 17, 18, 19, 20, 21, 22, 23, 24, 25, 26, 27, 28, 29, 30, 31, 32, 33, 34, 35, 36, 37, 38, 39, 40, 41, 42, 46, 47, 48, 49, 50, 51, 52, 53, 54, 55, 56, 57, 58, 59, 60, 61, 62] (by decide +kernel) (by decide +kernel)
set_option maxRecDepth 20000 in
theorem gX2_takeLatest_X5_copyFrom : GoodIn wsX2_takeLatest (wsV RX2 25 RX5 yX5_copyFrom wsX5_copyFrom) := goodIn_app (goodIn_of _ (by decide +kernel)) ggX2_takeLatest_X5_copyFrom
theorem dX2_takeLatest_0 : decode cX2_takeLatest 0 = .ok (.aload_n 0, 1) := by decide +kernel
theorem dX2_takeLatest_1 : decode cX2_takeLatest 1 = .ok (.getfield 21, 3) := by decide +kernel
theorem dX2_takeLatest_4 : decode cX2_takeLatest 4 = .ok (.ifCond .ne 4, 3) := by decide +kernel
theorem dX2_takeLatest_7 : decode cX2_takeLatest 7 = .ok (.return_, 1) := by decide +kernel
theorem dX2_takeLatest_8 : decode cX2_takeLatest 8 = .ok (.aload_n 0, 1) := by decide +kernel
theorem dX2_takeLatest_9 : decode cX2_takeLatest 9 = .ok (.dup, 1) := by decide +kernel
theorem dX2_takeLatest_10 : decode cX2_takeLatest 10 = .ok (.getfield 21, 3) := by decide +kernel
theorem dX2_takeLatest_13 : decode cX2_takeLatest 13 = .ok (.iconst 1, 1) := by decide +kernel
theorem dX2_takeLatest_14 : decode cX2_takeLatest 14 = .ok (.isub, 1) := by decide +kernel
theorem dX2_takeLatest_15 : decode cX2_takeLatest 15 = .ok (.putfield 21, 3) := by decide +kernel
theorem dX2_takeLatest_18 : decode cX2_takeLatest 18 = .ok (.aload_n 0, 1) := by decide +kernel
theorem dX2_takeLatest_19 : decode cX2_takeLatest 19 = .ok (.getfield 11, 3) := by decide +kernel
theorem dX2_takeLatest_22 : decode cX2_takeLatest 22 = .ok (.aload_n 0, 1) := by decide +kernel
theorem dX2_takeLatest_23 : decode cX2_takeLatest 23 = .ok (.getfield 17, 3) := by decide +kernel
theorem dX2_takeLatest_26 : decode cX2_takeLatest 26 = .ok (.aload_n 0, 1) := by decide +kernel
theorem dX2_takeLatest_27 : decode cX2_takeLatest 27 = .ok (.getfield 21, 3) := by decide +kernel
theorem dX2_takeLatest_30 : decode cX2_takeLatest 30 = .ok (.iadd, 1) := by decide +kernel
theorem dX2_takeLatest_31 : decode cX2_takeLatest 31 = .ok (.iconst 4, 1) := by decide +kernel
theorem dX2_takeLatest_32 : decode cX2_takeLatest 32 = .ok (.irem, 1) := by decide +kernel
theorem dX2_takeLatest_33 : decode cX2_takeLatest 33 = .ok (.aaload, 1) := by decide +kernel
theorem dX2_takeLatest_34 : decode cX2_takeLatest 34 = .ok (.astore_n 2, 1) := by decide +kernel
theorem dX2_takeLatest_35 : decode cX2_takeLatest 35 = .ok (.aload_n 2, 1) := by decide +kernel
theorem dX2_takeLatest_36 : decode cX2_takeLatest 36 = .ok (.ifnull 8, 3) := by decide +kernel
theorem dX2_takeLatest_39 : decode cX2_takeLatest 39 = .ok (.aload_n 1, 1) := by decide +kernel
theorem dX2_takeLatest_40 : decode cX2_takeLatest 40 = .ok (.aload_n 2, 1) := by decide +kernel
theorem dX2_takeLatest_41 : decode cX2_takeLatest 41 = .ok (.invokevirtual 25, 3) := by decide +kernel
theorem dX2_takeLatest_44 : decode cX2_takeLatest 44 = .ok (.return_, 1) := by decide +kernel
theorem dX3_init_0 : decode cX3_init 0 = .ok (.aload_n 0, 1) := by decide +kernel
theorem dX3_init_1 : decode cX3_init 1 = .ok (.invokespecial 3, 3) := by decide +kernel
theorem dX3_init_4 : decode cX3_init 4 = .ok (.aload_n 0, 1) := by decide +kernel
theorem dX3_init_5 : decode cX3_init 5 = .ok (.sipush 144, 3) := by decide +kernel
theorem dX3_init_8 : decode cX3_init 8 = .ok (.newarray .int, 2) := by decide +kernel
theorem dX3_init_10 : decode cX3_init 10 = .ok (.putfield 9, 3) := by decide +kernel
theorem dX3_init_13 : decode cX3_init 13 = .ok (.aload_n 0, 1) := by decide +kernel
theorem dX3_init_14 : decode cX3_init 14 = .ok (.sipush 144, 3) := by decide +kernel
theorem dX3_init_17 : decode cX3_init 17 = .ok (.newarray .int, 2) := by decide +kernel
theorem dX3_init_19 : decode cX3_init 19 = .ok (.putfield 15, 3) := by decide +kernel
theorem dX3_init_22 : decode cX3_init 22 = .ok (.aload_n 0, 1) := by decide +kernel
theorem dX3_init_23 : decode cX3_init 23 = .ok (.sipush 144, 3) := by decide +kernel
theorem dX3_init_26 : decode cX3_init 26 = .ok (.newarray .int, 2) := by decide +kernel
theorem dX3_init_28 : decode cX3_init 28 = .ok (.putfield 18, 3) := by decide +kernel
theorem dX3_init_31 : decode cX3_init 31 = .ok (.aload_n 0, 1) := by decide +kernel
theorem dX3_init_32 : decode cX3_init 32 = .ok (.aload_n 1, 1) := by decide +kernel
theorem dX3_init_33 : decode cX3_init 33 = .ok (.putfield 21, 3) := by decide +kernel
theorem dX3_init_36 : decode cX3_init 36 = .ok (.aload_n 0, 1) := by decide +kernel
theorem dX3_init_37 : decode cX3_init 37 = .ok (.aload_n 2, 1) := by decide +kernel
theorem dX3_init_38 : decode cX3_init 38 = .ok (.putfield 25, 3) := by decide +kernel
theorem dX3_init_41 : decode cX3_init 41 = .ok (.return_, 1) := by decide +kernel
set_option maxRecDepth 20000 in
theorem ggX3_stroke_X8_columnOf : GoodIn wsX3_stroke wsX8_columnOf := goodIn_r _ [6] (by decide +kernel) (by decide +kernel)
set_option maxRecDepth 20000 in
theorem gX3_stroke_X8_columnOf_n29 : GoodIn wsX3_stroke (wsX8_columnOf) := ggX3_stroke_X8_columnOf
set_option maxRecDepth 20000 in
theorem ggX3_stroke_X8_rowOf : GoodIn wsX3_stroke wsX8_rowOf := goodIn_r _ [8] (by decide +kernel) (by decide +kernel)
set_option maxRecDepth 20000 in
theorem gX3_stroke_X8_rowOf_n33 : GoodIn wsX3_stroke (wsX8_rowOf) := ggX3_stroke_X8_rowOf
set_option maxRecDepth 20000 in
theorem ggX3_stroke_X7_swingAt : GoodIn wsX3_stroke wsX7_swingAt := goodIn_r _ [13, 14, 15, 16, 17, 18, 19, 20, 21, 22, 5, 23, 24, 25, 55, 56, 57, 58, 59] (by decide +kernel) (by decide +kernel)
set_option maxRecDepth 20000 in
theorem gX3_stroke_X7_swingAt : GoodIn wsX3_stroke (wsV RX3 36 RX7 yX7_swingAt wsX7_swingAt) := goodIn_app (goodIn_of _ (by decide +kernel)) ggX3_stroke_X7_swingAt
set_option maxRecDepth 20000 in
theorem ggX3_stroke_X3_targetOf : GoodIn wsX3_stroke wsX3_targetOf := goodIn_r _ [30, 31, 5, 32, 33, 34, 35, 29, 36, 1, 24, 25, 50, 51, 52, 53, 54] (by decide +kernel) (by decide +kernel)
set_option maxRecDepth 20000 in
theorem gX3_stroke_X3_targetOf : GoodIn wsX3_stroke (wsV RX3 42 RX3 yX3_targetOf wsX3_targetOf) := goodIn_app (goodIn_of _ (by decide +kernel)) ggX3_stroke_X3_targetOf
set_option maxRecDepth 20000 in
theorem ggX3_stroke_X3_strokeOnce : GoodIn wsX3_stroke wsX3_strokeOnce := goodIn_r _ [40, 41, 1, 42, 43, 44, 45, 29, 46, 3, 47, 48, 49, 4, 5, 6, 7, 8, 50, 51, 52, 53, 54, 60, 61, 62, 63, 64, 65, 66, 67, 68, 69, 70, 71] (by decide +kernel) (by decide +kernel)
set_option maxRecDepth 20000 in
theorem gX3_stroke_X3_strokeOnce : GoodIn wsX3_stroke (wsV RX3 46 RX3 yX3_strokeOnce wsX3_strokeOnce) := goodIn_app (goodIn_of _ (by decide +kernel)) ggX3_stroke_X3_strokeOnce
theorem dX3_stroke_0 : decode cX3_stroke 0 = .ok (.iconst 0, 1) := by decide +kernel
theorem dX3_stroke_1 : decode cX3_stroke 1 = .ok (.istore_n 3, 1) := by decide +kernel
theorem dX3_stroke_2 : decode cX3_stroke 2 = .ok (.iload_n 3, 1) := by decide +kernel
theorem dX3_stroke_3 : decode cX3_stroke 3 = .ok (.sipush 144, 3) := by decide +kernel
theorem dX3_stroke_6 : decode cX3_stroke 6 = .ok (.if_icmp .ge 31, 3) := by decide +kernel
theorem dX3_stroke_9 : decode cX3_stroke 9 = .ok (.aload_n 0, 1) := by decide +kernel
theorem dX3_stroke_10 : decode cX3_stroke 10 = .ok (.getfield 9, 3) := by decide +kernel
theorem dX3_stroke_13 : decode cX3_stroke 13 = .ok (.iload_n 3, 1) := by decide +kernel
theorem dX3_stroke_14 : decode cX3_stroke 14 = .ok (.aload_n 0, 1) := by decide +kernel
theorem dX3_stroke_15 : decode cX3_stroke 15 = .ok (.getfield 21, 3) := by decide +kernel
theorem dX3_stroke_18 : decode cX3_stroke 18 = .ok (.iload_n 1, 1) := by decide +kernel
theorem dX3_stroke_19 : decode cX3_stroke 19 = .ok (.iload_n 3, 1) := by decide +kernel
theorem dX3_stroke_20 : decode cX3_stroke 20 = .ok (.invokestatic 29, 3) := by decide +kernel
theorem dX3_stroke_23 : decode cX3_stroke 23 = .ok (.iload_n 3, 1) := by decide +kernel
theorem dX3_stroke_24 : decode cX3_stroke 24 = .ok (.invokestatic 33, 3) := by decide +kernel
theorem dX3_stroke_27 : decode cX3_stroke 27 = .ok (.invokevirtual 36, 3) := by decide +kernel
theorem dX3_stroke_30 : decode cX3_stroke 30 = .ok (.iastore, 1) := by decide +kernel
theorem dX3_stroke_31 : decode cX3_stroke 31 = .ok (.iinc 3 1, 3) := by decide +kernel
theorem dX3_stroke_34 : decode cX3_stroke 34 = .ok (.goto (-32), 3) := by decide +kernel
theorem dX3_stroke_37 : decode cX3_stroke 37 = .ok (.iconst 0, 1) := by decide +kernel
theorem dX3_stroke_38 : decode cX3_stroke 38 = .ok (.istore_n 3, 1) := by decide +kernel
theorem dX3_stroke_39 : decode cX3_stroke 39 = .ok (.iload_n 3, 1) := by decide +kernel
theorem dX3_stroke_40 : decode cX3_stroke 40 = .ok (.sipush 144, 3) := by decide +kernel
theorem dX3_stroke_43 : decode cX3_stroke 43 = .ok (.if_icmp .ge 27, 3) := by decide +kernel
theorem dX3_stroke_46 : decode cX3_stroke 46 = .ok (.aload_n 0, 1) := by decide +kernel
theorem dX3_stroke_47 : decode cX3_stroke 47 = .ok (.getfield 15, 3) := by decide +kernel
theorem dX3_stroke_50 : decode cX3_stroke 50 = .ok (.iload_n 3, 1) := by decide +kernel
theorem dX3_stroke_51 : decode cX3_stroke 51 = .ok (.aload_n 0, 1) := by decide +kernel
theorem dX3_stroke_52 : decode cX3_stroke 52 = .ok (.iload_n 3, 1) := by decide +kernel
theorem dX3_stroke_53 : decode cX3_stroke 53 = .ok (.invokestatic 29, 3) := by decide +kernel
theorem dX3_stroke_56 : decode cX3_stroke 56 = .ok (.iload_n 3, 1) := by decide +kernel
theorem dX3_stroke_57 : decode cX3_stroke 57 = .ok (.invokestatic 33, 3) := by decide +kernel
theorem dX3_stroke_60 : decode cX3_stroke 60 = .ok (.invokevirtual 42, 3) := by decide +kernel
theorem dX3_stroke_63 : decode cX3_stroke 63 = .ok (.iastore, 1) := by decide +kernel
theorem dX3_stroke_64 : decode cX3_stroke 64 = .ok (.iinc 3 1, 3) := by decide +kernel
theorem dX3_stroke_67 : decode cX3_stroke 67 = .ok (.goto (-28), 3) := by decide +kernel
theorem dX3_stroke_70 : decode cX3_stroke 70 = .ok (.iconst 0, 1) := by decide +kernel
theorem dX3_stroke_71 : decode cX3_stroke 71 = .ok (.istore_n 3, 1) := by decide +kernel
theorem dX3_stroke_72 : decode cX3_stroke 72 = .ok (.iload_n 3, 1) := by decide +kernel
theorem dX3_stroke_73 : decode cX3_stroke 73 = .ok (.iload_n 2, 1) := by decide +kernel
theorem dX3_stroke_74 : decode cX3_stroke 74 = .ok (.if_icmp .ge 19, 3) := by decide +kernel
theorem dX3_stroke_77 : decode cX3_stroke 77 = .ok (.iload_n 3, 1) := by decide +kernel
theorem dX3_stroke_78 : decode cX3_stroke 78 = .ok (.bipush 20, 2) := by decide +kernel
theorem dX3_stroke_80 : decode cX3_stroke 80 = .ok (.if_icmp .ge 13, 3) := by decide +kernel
theorem dX3_stroke_83 : decode cX3_stroke 83 = .ok (.aload_n 0, 1) := by decide +kernel
theorem dX3_stroke_84 : decode cX3_stroke 84 = .ok (.invokevirtual 46, 3) := by decide +kernel
theorem dX3_stroke_87 : decode cX3_stroke 87 = .ok (.iinc 3 1, 3) := by decide +kernel
theorem dX3_stroke_90 : decode cX3_stroke 90 = .ok (.goto (-18), 3) := by decide +kernel
theorem dX3_stroke_93 : decode cX3_stroke 93 = .ok (.return_, 1) := by decide +kernel
set_option maxRecDepth 20000 in
theorem ggX3_targetOf_X8_placeOf : GoodIn wsX3_targetOf wsX8_placeOf := goodIn_r _ [3] (by decide +kernel) (by decide +kernel)
set_option maxRecDepth 20000 in
theorem gX3_targetOf_X8_placeOf_n49 : GoodIn wsX3_targetOf (wsX8_placeOf) := ggX3_targetOf_X8_placeOf
set_option maxRecDepth 20000 in
theorem ggX3_targetOf_X3_calmerOf : GoodIn wsX3_targetOf wsX3_calmerOf := goodIn_r _ [8, 9, 10, 2, 11, 1, 3, 12, 13, 14, 15, 16] (by decide +kernel) (by decide +kernel)
set_option maxRecDepth 20000 in
theorem gX3_targetOf_X3_calmerOf : GoodIn wsX3_targetOf (wsV RX3 52 RX3 yX3_calmerOf wsX3_calmerOf) := goodIn_app (goodIn_of _ (by decide +kernel)) ggX3_targetOf_X3_calmerOf
theorem dX3_targetOf_0 : decode cX3_targetOf 0 = .ok (.iload_n 1, 1) := by decide +kernel
theorem dX3_targetOf_1 : decode cX3_targetOf 1 = .ok (.iload_n 2, 1) := by decide +kernel
theorem dX3_targetOf_2 : decode cX3_targetOf 2 = .ok (.invokestatic 49, 3) := by decide +kernel
theorem dX3_targetOf_5 : decode cX3_targetOf 5 = .ok (.istore_n 3, 1) := by decide +kernel
theorem dX3_targetOf_6 : decode cX3_targetOf 6 = .ok (.aload_n 0, 1) := by decide +kernel
theorem dX3_targetOf_7 : decode cX3_targetOf 7 = .ok (.iload_n 3, 1) := by decide +kernel
theorem dX3_targetOf_8 : decode cX3_targetOf 8 = .ok (.iload_n 1, 1) := by decide +kernel
theorem dX3_targetOf_9 : decode cX3_targetOf 9 = .ok (.iload_n 2, 1) := by decide +kernel
theorem dX3_targetOf_10 : decode cX3_targetOf 10 = .ok (.iconst 1, 1) := by decide +kernel
theorem dX3_targetOf_11 : decode cX3_targetOf 11 = .ok (.isub, 1) := by decide +kernel
theorem dX3_targetOf_12 : decode cX3_targetOf 12 = .ok (.invokevirtual 52, 3) := by decide +kernel
theorem dX3_targetOf_15 : decode cX3_targetOf 15 = .ok (.istore_n 3, 1) := by decide +kernel
theorem dX3_targetOf_16 : decode cX3_targetOf 16 = .ok (.aload_n 0, 1) := by decide +kernel
theorem dX3_targetOf_17 : decode cX3_targetOf 17 = .ok (.iload_n 3, 1) := by decide +kernel
theorem dX3_targetOf_18 : decode cX3_targetOf 18 = .ok (.iload_n 1, 1) := by decide +kernel
theorem dX3_targetOf_19 : decode cX3_targetOf 19 = .ok (.iconst 1, 1) := by decide +kernel
theorem dX3_targetOf_20 : decode cX3_targetOf 20 = .ok (.isub, 1) := by decide +kernel
theorem dX3_targetOf_21 : decode cX3_targetOf 21 = .ok (.iload_n 2, 1) := by decide +kernel
theorem dX3_targetOf_22 : decode cX3_targetOf 22 = .ok (.invokevirtual 52, 3) := by decide +kernel
theorem dX3_targetOf_25 : decode cX3_targetOf 25 = .ok (.istore_n 3, 1) := by decide +kernel
theorem dX3_targetOf_26 : decode cX3_targetOf 26 = .ok (.aload_n 0, 1) := by decide +kernel
theorem dX3_targetOf_27 : decode cX3_targetOf 27 = .ok (.iload_n 3, 1) := by decide +kernel
theorem dX3_targetOf_28 : decode cX3_targetOf 28 = .ok (.iload_n 1, 1) := by decide +kernel
theorem dX3_targetOf_29 : decode cX3_targetOf 29 = .ok (.iconst 1, 1) := by decide +kernel
theorem dX3_targetOf_30 : decode cX3_targetOf 30 = .ok (.iadd, 1) := by decide +kernel
theorem dX3_targetOf_31 : decode cX3_targetOf 31 = .ok (.iload_n 2, 1) := by decide +kernel
theorem dX3_targetOf_32 : decode cX3_targetOf 32 = .ok (.invokevirtual 52, 3) := by decide +kernel
theorem dX3_targetOf_35 : decode cX3_targetOf 35 = .ok (.istore_n 3, 1) := by decide +kernel
theorem dX3_targetOf_36 : decode cX3_targetOf 36 = .ok (.aload_n 0, 1) := by decide +kernel
theorem dX3_targetOf_37 : decode cX3_targetOf 37 = .ok (.iload_n 3, 1) := by decide +kernel
theorem dX3_targetOf_38 : decode cX3_targetOf 38 = .ok (.iload_n 1, 1) := by decide +kernel
theorem dX3_targetOf_39 : decode cX3_targetOf 39 = .ok (.iload_n 2, 1) := by decide +kernel
theorem dX3_targetOf_40 : decode cX3_targetOf 40 = .ok (.iconst 1, 1) := by decide +kernel
theorem dX3_targetOf_41 : decode cX3_targetOf 41 = .ok (.iadd, 1) := by decide +kernel
theorem dX3_targetOf_42 : decode cX3_targetOf 42 = .ok (.invokevirtual 52, 3) := by decide +kernel
theorem dX3_targetOf_45 : decode cX3_targetOf 45 = .ok (.ireturn, 1) := by decide +kernel
set_option maxRecDepth 20000 in
theorem ggX3_calmerOf_X8_isPlace : GoodIn wsX3_calmerOf wsX8_isPlace := goodIn_r _ [4] (by decide +kernel) (by decide +kernel)
set_option maxRecDepth 20000 in
theorem gX3_calmerOf_X8_isPlace_n55 : GoodIn wsX3_calmerOf (wsX8_isPlace) := ggX3_calmerOf_X8_isPlace
set_option maxRecDepth 20000 in
theorem ggX3_calmerOf_X8_placeOf : GoodIn wsX3_calmerOf wsX8_placeOf := goodIn_r _ [6] (by decide +kernel) (by decide +kernel)
set_option maxRecDepth 20000 in
theorem gX3_calmerOf_X8_placeOf_n49 : GoodIn wsX3_calmerOf (wsX8_placeOf) := ggX3_calmerOf_X8_placeOf
theorem dX3_calmerOf_0 : decode cX3_calmerOf 0 = .ok (.iload_n 2, 1) := by decide +kernel
theorem dX3_calmerOf_1 : decode cX3_calmerOf 1 = .ok (.iload_n 3, 1) := by decide +kernel
theorem dX3_calmerOf_2 : decode cX3_calmerOf 2 = .ok (.invokestatic 55, 3) := by decide +kernel
theorem dX3_calmerOf_5 : decode cX3_calmerOf 5 = .ok (.ifCond .eq 28, 3) := by decide +kernel
theorem dX3_calmerOf_8 : decode cX3_calmerOf 8 = .ok (.aload_n 0, 1) := by decide +kernel
theorem dX3_calmerOf_9 : decode cX3_calmerOf 9 = .ok (.getfield 9, 3) := by decide +kernel
theorem dX3_calmerOf_12 : decode cX3_calmerOf 12 = .ok (.iload_n 2, 1) := by decide +kernel
theorem dX3_calmerOf_13 : decode cX3_calmerOf 13 = .ok (.iload_n 3, 1) := by decide +kernel
theorem dX3_calmerOf_14 : decode cX3_calmerOf 14 = .ok (.invokestatic 49, 3) := by decide +kernel
theorem dX3_calmerOf_17 : decode cX3_calmerOf 17 = .ok (.iaload, 1) := by decide +kernel
theorem dX3_calmerOf_18 : decode cX3_calmerOf 18 = .ok (.aload_n 0, 1) := by decide +kernel
theorem dX3_calmerOf_19 : decode cX3_calmerOf 19 = .ok (.getfield 9, 3) := by decide +kernel
theorem dX3_calmerOf_22 : decode cX3_calmerOf 22 = .ok (.iload_n 1, 1) := by decide +kernel
theorem dX3_calmerOf_23 : decode cX3_calmerOf 23 = .ok (.iaload, 1) := by decide +kernel
theorem dX3_calmerOf_24 : decode cX3_calmerOf 24 = .ok (.if_icmp .ge 9, 3) := by decide +kernel
theorem dX3_calmerOf_27 : decode cX3_calmerOf 27 = .ok (.iload_n 2, 1) := by decide +kernel
theorem dX3_calmerOf_28 : decode cX3_calmerOf 28 = .ok (.iload_n 3, 1) := by decide +kernel
theorem dX3_calmerOf_29 : decode cX3_calmerOf 29 = .ok (.invokestatic 49, 3) := by decide +kernel
theorem dX3_calmerOf_32 : decode cX3_calmerOf 32 = .ok (.ireturn, 1) := by decide +kernel
theorem dX3_calmerOf_33 : decode cX3_calmerOf 33 = .ok (.iload_n 1, 1) := by decide +kernel
theorem dX3_calmerOf_34 : decode cX3_calmerOf 34 = .ok (.ireturn, 1) := by decide +kernel
set_option maxRecDepth 20000 in
theorem ggX3_strokeOnce_X3_shake : GoodIn wsX3_strokeOnce wsX3_shake := goodIn_r _ [8, 9, 3, 2, 1, 10, 11, 7, 12, 13, 14, 15, 16, 17, 18, 19, 20, 21, 22, 23, 24, 25, 26, 27, 28, 29, 30, 31, 32, 33, 34] (by decide +kernel) (by decide +kernel)
set_option maxRecDepth 20000 in
theorem gX3_strokeOnce_X3_shake : GoodIn wsX3_strokeOnce (wsV RX3 67 RX3 yX3_shake wsX3_shake) := goodIn_app (goodIn_of _ (by decide +kernel)) ggX3_strokeOnce_X3_shake
theorem dX3_strokeOnce_0 : decode cX3_strokeOnce 0 = .ok (.iconst 0, 1) := by decide +kernel
theorem dX3_strokeOnce_1 : decode cX3_strokeOnce 1 = .ok (.istore_n 1, 1) := by decide +kernel
theorem dX3_strokeOnce_2 : decode cX3_strokeOnce 2 = .ok (.iload_n 1, 1) := by decide +kernel
theorem dX3_strokeOnce_3 : decode cX3_strokeOnce 3 = .ok (.sipush 144, 3) := by decide +kernel
theorem dX3_strokeOnce_6 : decode cX3_strokeOnce 6 = .ok (.if_icmp .ge 16, 3) := by decide +kernel
theorem dX3_strokeOnce_9 : decode cX3_strokeOnce 9 = .ok (.aload_n 0, 1) := by decide +kernel
theorem dX3_strokeOnce_10 : decode cX3_strokeOnce 10 = .ok (.getfield 18, 3) := by decide +kernel
theorem dX3_strokeOnce_13 : decode cX3_strokeOnce 13 = .ok (.iload_n 1, 1) := by decide +kernel
theorem dX3_strokeOnce_14 : decode cX3_strokeOnce 14 = .ok (.iconst 0, 1) := by decide +kernel
theorem dX3_strokeOnce_15 : decode cX3_strokeOnce 15 = .ok (.iastore, 1) := by decide +kernel
theorem dX3_strokeOnce_16 : decode cX3_strokeOnce 16 = .ok (.iinc 1 1, 3) := by decide +kernel
theorem dX3_strokeOnce_19 : decode cX3_strokeOnce 19 = .ok (.goto (-17), 3) := by decide +kernel
theorem dX3_strokeOnce_22 : decode cX3_strokeOnce 22 = .ok (.iconst 0, 1) := by decide +kernel
theorem dX3_strokeOnce_23 : decode cX3_strokeOnce 23 = .ok (.istore_n 1, 1) := by decide +kernel
theorem dX3_strokeOnce_24 : decode cX3_strokeOnce 24 = .ok (.iload_n 1, 1) := by decide +kernel
theorem dX3_strokeOnce_25 : decode cX3_strokeOnce 25 = .ok (.sipush 144, 3) := by decide +kernel
theorem dX3_strokeOnce_28 : decode cX3_strokeOnce 28 = .ok (.if_icmp .ge 44, 3) := by decide +kernel
theorem dX3_strokeOnce_31 : decode cX3_strokeOnce 31 = .ok (.aload_n 0, 1) := by decide +kernel
theorem dX3_strokeOnce_32 : decode cX3_strokeOnce 32 = .ok (.getfield 9, 3) := by decide +kernel
theorem dX3_strokeOnce_35 : decode cX3_strokeOnce 35 = .ok (.iload_n 1, 1) := by decide +kernel
theorem dX3_strokeOnce_36 : decode cX3_strokeOnce 36 = .ok (.iaload, 1) := by decide +kernel
theorem dX3_strokeOnce_37 : decode cX3_strokeOnce 37 = .ok (.aload_n 0, 1) := by decide +kernel
theorem dX3_strokeOnce_38 : decode cX3_strokeOnce 38 = .ok (.getfield 25, 3) := by decide +kernel
theorem dX3_strokeOnce_41 : decode cX3_strokeOnce 41 = .ok (.getfield 59, 3) := by decide +kernel
theorem dX3_strokeOnce_44 : decode cX3_strokeOnce 44 = .ok (.iconst 2, 1) := by decide +kernel
theorem dX3_strokeOnce_45 : decode cX3_strokeOnce 45 = .ok (.iaload, 1) := by decide +kernel
theorem dX3_strokeOnce_46 : decode cX3_strokeOnce 46 = .ok (.if_icmp .le 20, 3) := by decide +kernel
theorem dX3_strokeOnce_49 : decode cX3_strokeOnce 49 = .ok (.aload_n 0, 1) := by decide +kernel
theorem dX3_strokeOnce_50 : decode cX3_strokeOnce 50 = .ok (.getfield 25, 3) := by decide +kernel
theorem dX3_strokeOnce_53 : decode cX3_strokeOnce 53 = .ok (.getfield 64, 3) := by decide +kernel
theorem dX3_strokeOnce_56 : decode cX3_strokeOnce 56 = .ok (.iload_n 1, 1) := by decide +kernel
theorem dX3_strokeOnce_57 : decode cX3_strokeOnce 57 = .ok (.iaload, 1) := by decide +kernel
theorem dX3_strokeOnce_58 : decode cX3_strokeOnce 58 = .ok (.ifCond .le 8, 3) := by decide +kernel
theorem dX3_strokeOnce_61 : decode cX3_strokeOnce 61 = .ok (.aload_n 0, 1) := by decide +kernel
theorem dX3_strokeOnce_62 : decode cX3_strokeOnce 62 = .ok (.iload_n 1, 1) := by decide +kernel
theorem dX3_strokeOnce_63 : decode cX3_strokeOnce 63 = .ok (.invokevirtual 67, 3) := by decide +kernel
theorem dX3_strokeOnce_66 : decode cX3_strokeOnce 66 = .ok (.iinc 1 1, 3) := by decide +kernel
theorem dX3_strokeOnce_69 : decode cX3_strokeOnce 69 = .ok (.goto (-45), 3) := by decide +kernel
theorem dX3_strokeOnce_72 : decode cX3_strokeOnce 72 = .ok (.iconst 0, 1) := by decide +kernel
theorem dX3_strokeOnce_73 : decode cX3_strokeOnce 73 = .ok (.istore_n 1, 1) := by decide +kernel
theorem dX3_strokeOnce_74 : decode cX3_strokeOnce 74 = .ok (.iload_n 1, 1) := by decide +kernel
theorem dX3_strokeOnce_75 : decode cX3_strokeOnce 75 = .ok (.sipush 144, 3) := by decide +kernel
theorem dX3_strokeOnce_78 : decode cX3_strokeOnce 78 = .ok (.if_icmp .ge 27, 3) := by decide +kernel
theorem dX3_strokeOnce_81 : decode cX3_strokeOnce 81 = .ok (.aload_n 0, 1) := by decide +kernel
theorem dX3_strokeOnce_82 : decode cX3_strokeOnce 82 = .ok (.getfield 25, 3) := by decide +kernel
theorem dX3_strokeOnce_85 : decode cX3_strokeOnce 85 = .ok (.getfield 64, 3) := by decide +kernel
theorem dX3_strokeOnce_88 : decode cX3_strokeOnce 88 = .ok (.iload_n 1, 1) := by decide +kernel
theorem dX3_strokeOnce_89 : decode cX3_strokeOnce 89 = .ok (.dup2, 1) := by decide +kernel
theorem dX3_strokeOnce_90 : decode cX3_strokeOnce 90 = .ok (.iaload, 1) := by decide +kernel
theorem dX3_strokeOnce_91 : decode cX3_strokeOnce 91 = .ok (.aload_n 0, 1) := by decide +kernel
theorem dX3_strokeOnce_92 : decode cX3_strokeOnce 92 = .ok (.getfield 18, 3) := by decide +kernel
theorem dX3_strokeOnce_95 : decode cX3_strokeOnce 95 = .ok (.iload_n 1, 1) := by decide +kernel
theorem dX3_strokeOnce_96 : decode cX3_strokeOnce 96 = .ok (.iaload, 1) := by decide +kernel
theorem dX3_strokeOnce_97 : decode cX3_strokeOnce 97 = .ok (.iadd, 1) := by decide +kernel
theorem dX3_strokeOnce_98 : decode cX3_strokeOnce 98 = .ok (.iastore, 1) := by decide +kernel
theorem dX3_strokeOnce_99 : decode cX3_strokeOnce 99 = .ok (.iinc 1 1, 3) := by decide +kernel
theorem dX3_strokeOnce_102 : decode cX3_strokeOnce 102 = .ok (.goto (-28), 3) := by decide +kernel
theorem dX3_strokeOnce_105 : decode cX3_strokeOnce 105 = .ok (.return_, 1) := by decide +kernel
set_option maxRecDepth 20000 in
theorem ggX3_shake_X3_isAtEdge : GoodIn wsX3_shake wsX3_isAtEdge := goodIn_r _ [8, 9, 10, 11, 12, 13] (by decide +kernel) (by decide +kernel)
set_option maxRecDepth 20000 in
theorem gX3_shake_X3_isAtEdge : GoodIn wsX3_shake (va_wsS RX3 71 yX3_isAtEdge wsX3_isAtEdge) := goodIn_app (goodIn_of _ (by decide +kernel)) ggX3_shake_X3_isAtEdge
theorem dX3_shake_0 : decode cX3_shake 0 = .ok (.aload_n 0, 1) := by decide +kernel
theorem dX3_shake_1 : decode cX3_shake 1 = .ok (.getfield 15, 3) := by decide +kernel
theorem dX3_shake_4 : decode cX3_shake 4 = .ok (.iload_n 1, 1) := by decide +kernel
theorem dX3_shake_5 : decode cX3_shake 5 = .ok (.iaload, 1) := by decide +kernel
theorem dX3_shake_6 : decode cX3_shake 6 = .ok (.istore_n 2, 1) := by decide +kernel
theorem dX3_shake_7 : decode cX3_shake 7 = .ok (.iload_n 2, 1) := by decide +kernel
theorem dX3_shake_8 : decode cX3_shake 8 = .ok (.ifCond .lt 10, 3) := by decide +kernel
theorem dX3_shake_11 : decode cX3_shake 11 = .ok (.iload_n 2, 1) := by decide +kernel
theorem dX3_shake_12 : decode cX3_shake 12 = .ok (.sipush 144, 3) := by decide +kernel
theorem dX3_shake_15 : decode cX3_shake 15 = .ok (.if_icmp .lt 4, 3) := by decide +kernel
theorem dX3_shake_18 : decode cX3_shake 18 = .ok (.return_, 1) := by decide +kernel
theorem dX3_shake_19 : decode cX3_shake 19 = .ok (.aload_n 0, 1) := by decide +kernel
theorem dX3_shake_20 : decode cX3_shake 20 = .ok (.getfield 25, 3) := by decide +kernel
theorem dX3_shake_23 : decode cX3_shake 23 = .ok (.getfield 64, 3) := by decide +kernel
theorem dX3_shake_26 : decode cX3_shake 26 = .ok (.iload_n 1, 1) := by decide +kernel
theorem dX3_shake_27 : decode cX3_shake 27 = .ok (.iaload, 1) := by decide +kernel
theorem dX3_shake_28 : decode cX3_shake 28 = .ok (.iconst 1, 1) := by decide +kernel
theorem dX3_shake_29 : decode cX3_shake 29 = .ok (.iadd, 1) := by decide +kernel
theorem dX3_shake_30 : decode cX3_shake 30 = .ok (.iconst 2, 1) := by decide +kernel
theorem dX3_shake_31 : decode cX3_shake 31 = .ok (.idiv, 1) := by decide +kernel
theorem dX3_shake_32 : decode cX3_shake 32 = .ok (.istore_n 3, 1) := by decide +kernel
theorem dX3_shake_33 : decode cX3_shake 33 = .ok (.aload_n 0, 1) := by decide +kernel
theorem dX3_shake_34 : decode cX3_shake 34 = .ok (.getfield 25, 3) := by decide +kernel
theorem dX3_shake_37 : decode cX3_shake 37 = .ok (.getfield 64, 3) := by decide +kernel
theorem dX3_shake_40 : decode cX3_shake 40 = .ok (.iload_n 1, 1) := by decide +kernel
theorem dX3_shake_41 : decode cX3_shake 41 = .ok (.dup2, 1) := by decide +kernel
theorem dX3_shake_42 : decode cX3_shake 42 = .ok (.iaload, 1) := by decide +kernel
theorem dX3_shake_43 : decode cX3_shake 43 = .ok (.iload_n 3, 1) := by decide +kernel
theorem dX3_shake_44 : decode cX3_shake 44 = .ok (.isub, 1) := by decide +kernel
theorem dX3_shake_45 : decode cX3_shake 45 = .ok (.iastore, 1) := by decide +kernel
theorem dX3_shake_46 : decode cX3_shake 46 = .ok (.iload_n 1, 1) := by decide +kernel
theorem dX3_shake_47 : decode cX3_shake 47 = .ok (.invokestatic 71, 3) := by decide +kernel
theorem dX3_shake_50 : decode cX3_shake 50 = .ok (.ifCond .eq 37, 3) := by decide +kernel
theorem dX3_shake_53 : decode cX3_shake 53 = .ok (.aload_n 0, 1) := by decide +kernel
theorem dX3_shake_54 : decode cX3_shake 54 = .ok (.getfield 9, 3) := by decide +kernel
theorem dX3_shake_57 : decode cX3_shake 57 = .ok (.iload_n 1, 1) := by decide +kernel
theorem dX3_shake_58 : decode cX3_shake 58 = .ok (.iaload, 1) := by decide +kernel
theorem dX3_shake_59 : decode cX3_shake 59 = .ok (.aload_n 0, 1) := by decide +kernel
theorem dX3_shake_60 : decode cX3_shake 60 = .ok (.getfield 25, 3) := by decide +kernel
theorem dX3_shake_63 : decode cX3_shake 63 = .ok (.getfield 59, 3) := by decide +kernel
theorem dX3_shake_66 : decode cX3_shake 66 = .ok (.iconst 3, 1) := by decide +kernel
theorem dX3_shake_67 : decode cX3_shake 67 = .ok (.iaload, 1) := by decide +kernel
theorem dX3_shake_68 : decode cX3_shake 68 = .ok (.if_icmp .lt 19, 3) := by decide +kernel
theorem dX3_shake_71 : decode cX3_shake 71 = .ok (.iinc 3 (-1), 3) := by decide +kernel
theorem dX3_shake_74 : decode cX3_shake 74 = .ok (.aload_n 0, 1) := by decide +kernel
theorem dX3_shake_75 : decode cX3_shake 75 = .ok (.getfield 25, 3) := by decide +kernel
theorem dX3_shake_78 : decode cX3_shake 78 = .ok (.dup, 1) := by decide +kernel
theorem dX3_shake_79 : decode cX3_shake 79 = .ok (.getfield 75, 3) := by decide +kernel
theorem dX3_shake_82 : decode cX3_shake 82 = .ok (.iconst 1, 1) := by decide +kernel
theorem dX3_shake_83 : decode cX3_shake 83 = .ok (.iadd, 1) := by decide +kernel
theorem dX3_shake_84 : decode cX3_shake 84 = .ok (.putfield 75, 3) := by decide +kernel
theorem dX3_shake_87 : decode cX3_shake 87 = .ok (.aload_n 0, 1) := by decide +kernel
theorem dX3_shake_88 : decode cX3_shake 88 = .ok (.getfield 18, 3) := by decide +kernel
theorem dX3_shake_91 : decode cX3_shake 91 = .ok (.iload_n 2, 1) := by decide +kernel
theorem dX3_shake_92 : decode cX3_shake 92 = .ok (.dup2, 1) := by decide +kernel
theorem dX3_shake_93 : decode cX3_shake 93 = .ok (.iaload, 1) := by decide +kernel
theorem dX3_shake_94 : decode cX3_shake 94 = .ok (.iload_n 3, 1) := by decide +kernel
theorem dX3_shake_95 : decode cX3_shake 95 = .ok (.iadd, 1) := by decide +kernel
theorem dX3_shake_96 : decode cX3_shake 96 = .ok (.iastore, 1) := by decide +kernel
theorem dX3_shake_97 : decode cX3_shake 97 = .ok (.return_, 1) := by decide +kernel
set_option maxRecDepth 20000 in
theorem ggX3_isAtEdge_X8_columnOf : GoodIn wsX3_isAtEdge wsX8_columnOf := goodIn_r _ [3] (by decide +kernel) (by decide +kernel)
set_option maxRecDepth 20000 in
theorem gX3_isAtEdge_X8_columnOf_n29 : GoodIn wsX3_isAtEdge (wsX8_columnOf) := ggX3_isAtEdge_X8_columnOf
set_option maxRecDepth 20000 in
theorem ggX3_isAtEdge_X8_rowOf : GoodIn wsX3_isAtEdge wsX8_rowOf := goodIn_r _ [5] (by decide +kernel) (by decide +kernel)
set_option maxRecDepth 20000 in
theorem gX3_isAtEdge_X8_rowOf_n33 : GoodIn wsX3_isAtEdge (wsX8_rowOf) := ggX3_isAtEdge_X8_rowOf
theorem dX3_isAtEdge_0 : decode cX3_isAtEdge 0 = .ok (.iload_n 0, 1) := by decide +kernel
theorem dX3_isAtEdge_1 : decode cX3_isAtEdge 1 = .ok (.invokestatic 29, 3) := by decide +kernel
theorem dX3_isAtEdge_4 : decode cX3_isAtEdge 4 = .ok (.istore_n 1, 1) := by decide +kernel
theorem dX3_isAtEdge_5 : decode cX3_isAtEdge 5 = .ok (.iload_n 0, 1) := by decide +kernel
theorem dX3_isAtEdge_6 : decode cX3_isAtEdge 6 = .ok (.invokestatic 33, 3) := by decide +kernel
theorem dX3_isAtEdge_9 : decode cX3_isAtEdge 9 = .ok (.istore_n 2, 1) := by decide +kernel
theorem dX3_isAtEdge_10 : decode cX3_isAtEdge 10 = .ok (.iload_n 1, 1) := by decide +kernel
theorem dX3_isAtEdge_11 : decode cX3_isAtEdge 11 = .ok (.ifCond .eq 19, 3) := by decide +kernel
theorem dX3_isAtEdge_14 : decode cX3_isAtEdge 14 = .ok (.iload_n 2, 1) := by decide +kernel
theorem dX3_isAtEdge_15 : decode cX3_isAtEdge 15 = .ok (.ifCond .eq 15, 3) := by decide +kernel
theorem dX3_isAtEdge_18 : decode cX3_isAtEdge 18 = .ok (.iload_n 1, 1) := by decide +kernel
theorem dX3_isAtEdge_19 : decode cX3_isAtEdge 19 = .ok (.bipush 11, 2) := by decide +kernel
theorem dX3_isAtEdge_21 : decode cX3_isAtEdge 21 = .ok (.if_icmp .eq 9, 3) := by decide +kernel
theorem dX3_isAtEdge_24 : decode cX3_isAtEdge 24 = .ok (.iload_n 2, 1) := by decide +kernel
theorem dX3_isAtEdge_25 : decode cX3_isAtEdge 25 = .ok (.bipush 11, 2) := by decide +kernel
theorem dX3_isAtEdge_27 : decode cX3_isAtEdge 27 = .ok (.if_icmp .ne 7, 3) := by decide +kernel
theorem dX3_isAtEdge_30 : decode cX3_isAtEdge 30 = .ok (.iconst 1, 1) := by decide +kernel
theorem dX3_isAtEdge_31 : decode cX3_isAtEdge 31 = .ok (.goto 4, 3) := by decide +kernel
theorem dX3_isAtEdge_34 : decode cX3_isAtEdge 34 = .ok (.iconst 0, 1) := by decide +kernel
theorem dX3_isAtEdge_35 : decode cX3_isAtEdge 35 = .ok (.ireturn, 1) := by decide +kernel
