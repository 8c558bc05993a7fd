/-! printed rows -/
theorem dX4_init_0 : decode cX4_init 0 = .ok (.aload_n 0, 1) := by decide +kernel
theorem dX4_init_1 : decode cX4_init 1 = .ok (.invokespecial 1, 3) := by decide +kernel
theorem dX4_init_4 : decode cX4_init 4 = .ok (.aload_n 0, 1) := by decide +kernel
theorem dX4_init_5 : decode cX4_init 5 = .ok (.iconst 0, 1) := by decide +kernel
theorem dX4_init_6 : decode cX4_init 6 = .ok (.putfield 7, 3) := by decide +kernel
theorem dX4_init_9 : decode cX4_init 9 = .ok (.aload_n 0, 1) := by decide +kernel
theorem dX4_init_10 : decode cX4_init 10 = .ok (.iload_n 1, 1) := by decide +kernel
theorem dX4_init_11 : decode cX4_init 11 = .ok (.iconst 0, 1) := by decide +kernel
theorem dX4_init_12 : decode cX4_init 12 = .ok (.invokestatic 13, 3) := by decide +kernel
theorem dX4_init_15 : decode cX4_init 15 = .ok (.putfield 19, 3) := by decide +kernel
theorem dX4_init_18 : decode cX4_init 18 = .ok (.aload_n 0, 1) := by decide +kernel
theorem dX4_init_19 : decode cX4_init 19 = .ok (.aload_n 0, 1) := by decide +kernel
theorem dX4_init_20 : decode cX4_init 20 = .ok (.getfield 19, 3) := by decide +kernel
theorem dX4_init_23 : decode cX4_init 23 = .ok (.newarray .int, 2) := by decide +kernel
theorem dX4_init_25 : decode cX4_init 25 = .ok (.putfield 22, 3) := by decide +kernel
theorem dX4_init_28 : decode cX4_init 28 = .ok (.aload_n 0, 1) := by decide +kernel
theorem dX4_init_29 : decode cX4_init 29 = .ok (.aload_n 0, 1) := by decide +kernel
theorem dX4_init_30 : decode cX4_init 30 = .ok (.getfield 19, 3) := by decide +kernel
theorem dX4_init_33 : decode cX4_init 33 = .ok (.newarray .int, 2) := by decide +kernel
theorem dX4_init_35 : decode cX4_init 35 = .ok (.putfield 26, 3) := by decide +kernel
theorem dX4_init_38 : decode cX4_init 38 = .ok (.aload_n 0, 1) := by decide +kernel
theorem dX4_init_39 : decode cX4_init 39 = .ok (.aload_n 0, 1) := by decide +kernel
theorem dX4_init_40 : decode cX4_init 40 = .ok (.getfield 19, 3) := by decide +kernel
theorem dX4_init_43 : decode cX4_init 43 = .ok (.newarray .int, 2) := by decide +kernel
theorem dX4_init_45 : decode cX4_init 45 = .ok (.putfield 29, 3) := by decide +kernel
theorem dX4_init_48 : decode cX4_init 48 = .ok (.return_, 1) := by decide +kernel
theorem dX4_append_0 : decode cX4_append 0 = .ok (.aload_n 0, 1) := by decide +kernel
theorem dX4_append_1 : decode cX4_append 1 = .ok (.getfield 7, 3) := by decide +kernel
theorem dX4_append_4 : decode cX4_append 4 = .ok (.aload_n 0, 1) := by decide +kernel
theorem dX4_append_5 : decode cX4_append 5 = .ok (.getfield 19, 3) := by decide +kernel
theorem dX4_append_8 : decode cX4_append 8 = .ok (.if_icmp .ge 43, 3) := by decide +kernel
theorem dX4_append_11 : decode cX4_append 11 = .ok (.aload_n 0, 1) := by decide +kernel
theorem dX4_append_12 : decode cX4_append 12 = .ok (.getfield 22, 3) := by decide +kernel
theorem dX4_append_15 : decode cX4_append 15 = .ok (.aload_n 0, 1) := by decide +kernel
theorem dX4_append_16 : decode cX4_append 16 = .ok (.getfield 7, 3) := by decide +kernel
theorem dX4_append_19 : decode cX4_append 19 = .ok (.iload_n 1, 1) := by decide +kernel
theorem dX4_append_20 : decode cX4_append 20 = .ok (.iastore, 1) := by decide +kernel
theorem dX4_append_21 : decode cX4_append 21 = .ok (.aload_n 0, 1) := by decide +kernel
theorem dX4_append_22 : decode cX4_append 22 = .ok (.getfield 26, 3) := by decide +kernel
theorem dX4_append_25 : decode cX4_append 25 = .ok (.aload_n 0, 1) := by decide +kernel
theorem dX4_append_26 : decode cX4_append 26 = .ok (.getfield 7, 3) := by decide +kernel
theorem dX4_append_29 : decode cX4_append 29 = .ok (.iload_n 2, 1) := by decide +kernel
theorem dX4_append_30 : decode cX4_append 30 = .ok (.iastore, 1) := by decide +kernel
theorem dX4_append_31 : decode cX4_append 31 = .ok (.aload_n 0, 1) := by decide +kernel
theorem dX4_append_32 : decode cX4_append 32 = .ok (.getfield 29, 3) := by decide +kernel
theorem dX4_append_35 : decode cX4_append 35 = .ok (.aload_n 0, 1) := by decide +kernel
theorem dX4_append_36 : decode cX4_append 36 = .ok (.getfield 7, 3) := by decide +kernel
theorem dX4_append_39 : decode cX4_append 39 = .ok (.iload_n 3, 1) := by decide +kernel
theorem dX4_append_40 : decode cX4_append 40 = .ok (.iastore, 1) := by decide +kernel
theorem dX4_append_41 : decode cX4_append 41 = .ok (.aload_n 0, 1) := by decide +kernel
theorem dX4_append_42 : decode cX4_append 42 = .ok (.dup, 1) := by decide +kernel
theorem dX4_append_43 : decode cX4_append 43 = .ok (.getfield 7, 3) := by decide +kernel
theorem dX4_append_46 : decode cX4_append 46 = .ok (.iconst 1, 1) := by decide +kernel
theorem dX4_append_47 : decode cX4_append 47 = .ok (.iadd, 1) := by decide +kernel
theorem dX4_append_48 : decode cX4_append 48 = .ok (.putfield 7, 3) := by decide +kernel
theorem dX4_append_51 : decode cX4_append 51 = .ok (.return_, 1) := by decide +kernel
set_option maxRecDepth 20000 in
theorem ggX4_appendAll_X4_append : GoodIn wsX4_appendAll wsX4_append := goodIn_r _ [9, 1, 10, 2, 3, 4, 11, 12, 13, 14, 15] (by decide +kernel) (by decide +kernel)
set_option maxRecDepth 20000 in
theorem gX4_appendAll_X4_append : GoodIn wsX4_appendAll (wsV RX4 32 RX4 yX4_append wsX4_append) := goodIn_app (goodIn_of _ (by decide +kernel)) ggX4_appendAll_X4_append
theorem dX4_appendAll_0 : decode cX4_appendAll 0 = .ok (.iconst 0, 1) := by decide +kernel
theorem dX4_appendAll_1 : decode cX4_appendAll 1 = .ok (.istore_n 2, 1) := by decide +kernel
theorem dX4_appendAll_2 : decode cX4_appendAll 2 = .ok (.iload_n 2, 1) := by decide +kernel
theorem dX4_appendAll_3 : decode cX4_appendAll 3 = .ok (.aload_n 1, 1) := by decide +kernel
theorem dX4_appendAll_4 : decode cX4_appendAll 4 = .ok (.getfield 7, 3) := by decide +kernel
theorem dX4_appendAll_7 : decode cX4_appendAll 7 = .ok (.if_icmp .ge 31, 3) := by decide +kernel
theorem dX4_appendAll_10 : decode cX4_appendAll 10 = .ok (.aload_n 0, 1) := by decide +kernel
theorem dX4_appendAll_11 : decode cX4_appendAll 11 = .ok (.aload_n 1, 1) := by decide +kernel
theorem dX4_appendAll_12 : decode cX4_appendAll 12 = .ok (.getfield 22, 3) := by decide +kernel
theorem dX4_appendAll_15 : decode cX4_appendAll 15 = .ok (.iload_n 2, 1) := by decide +kernel
theorem dX4_appendAll_16 : decode cX4_appendAll 16 = .ok (.iaload, 1) := by decide +kernel
theorem dX4_appendAll_17 : decode cX4_appendAll 17 = .ok (.aload_n 1, 1) := by decide +kernel
theorem dX4_appendAll_18 : decode cX4_appendAll 18 = .ok (.getfield 26, 3) := by decide +kernel
theorem dX4_appendAll_21 : decode cX4_appendAll 21 = .ok (.iload_n 2, 1) := by decide +kernel
theorem dX4_appendAll_22 : decode cX4_appendAll 22 = .ok (.iaload, 1) := by decide +kernel
theorem dX4_appendAll_23 : decode cX4_appendAll 23 = .ok (.aload_n 1, 1) := by decide +kernel
theorem dX4_appendAll_24 : decode cX4_appendAll 24 = .ok (.getfield 29, 3) := by decide +kernel
theorem dX4_appendAll_27 : decode cX4_appendAll 27 = .ok (.iload_n 2, 1) := by decide +kernel
theorem dX4_appendAll_28 : decode cX4_appendAll 28 = .ok (.iaload, 1) := by decide +kernel
theorem dX4_appendAll_29 : decode cX4_appendAll 29 = .ok (.invokevirtual 32, 3) := by decide +kernel
theorem dX4_appendAll_32 : decode cX4_appendAll 32 = .ok (.iinc 2 1, 3) := by decide +kernel
theorem dX4_appendAll_35 : decode cX4_appendAll 35 = .ok (.goto (-33), 3) := by decide +kernel
theorem dX4_appendAll_38 : decode cX4_appendAll 38 = .ok (.return_, 1) := by decide +kernel
set_option maxRecDepth 20000 in
theorem ggX4_copyFrom_X4_appendAll : GoodIn wsX4_copyFrom wsX4_appendAll := goodIn_r _ [6, 1, 7, 8, 9, 10, 11, 12, 5, 13, 14, 15, 16, 17, 18, 19] (by decide +kernel) (by decide +kernel)
set_option maxRecDepth 20000 in
theorem gX4_copyFrom_X4_appendAll : GoodIn wsX4_copyFrom (wsV RX4 36 RX4 yX4_appendAll wsX4_appendAll) := goodIn_app (goodIn_of _ (by decide +kernel)) ggX4_copyFrom_X4_appendAll
theorem dX4_copyFrom_0 : decode cX4_copyFrom 0 = .ok (.aload_n 0, 1) := by decide +kernel
theorem dX4_copyFrom_1 : decode cX4_copyFrom 1 = .ok (.iconst 0, 1) := by decide +kernel
theorem dX4_copyFrom_2 : decode cX4_copyFrom 2 = .ok (.putfield 7, 3) := by decide +kernel
theorem dX4_copyFrom_5 : decode cX4_copyFrom 5 = .ok (.aload_n 0, 1) := by decide +kernel
theorem dX4_copyFrom_6 : decode cX4_copyFrom 6 = .ok (.aload_n 1, 1) := by decide +kernel
theorem dX4_copyFrom_7 : decode cX4_copyFrom 7 = .ok (.invokevirtual 36, 3) := by decide +kernel
theorem dX4_copyFrom_10 : decode cX4_copyFrom 10 = .ok (.return_, 1) := by decide +kernel
set_option maxRecDepth 20000 in
theorem ggX4_dropFirst_X4_append : GoodIn wsX4_dropFirst wsX4_append := goodIn_r _ [13, 1, 14, 6, 7, 8, 15, 16, 17, 18, 19] (by decide +kernel) (by decide +kernel)
set_option maxRecDepth 20000 in
theorem gX4_dropFirst_X4_append : GoodIn wsX4_dropFirst (wsV RX4 32 RX4 yX4_append wsX4_append) := goodIn_app (goodIn_of _ (by decide +kernel)) ggX4_dropFirst_X4_append
theorem dX4_dropFirst_0 : decode cX4_dropFirst 0 = .ok (.aload_n 0, 1) := by decide +kernel
theorem dX4_dropFirst_1 : decode cX4_dropFirst 1 = .ok (.getfield 7, 3) := by decide +kernel
theorem dX4_dropFirst_4 : decode cX4_dropFirst 4 = .ok (.istore_n 2, 1) := by decide +kernel
theorem dX4_dropFirst_5 : decode cX4_dropFirst 5 = .ok (.aload_n 0, 1) := by decide +kernel
theorem dX4_dropFirst_6 : decode cX4_dropFirst 6 = .ok (.iconst 0, 1) := by decide +kernel
theorem dX4_dropFirst_7 : decode cX4_dropFirst 7 = .ok (.putfield 7, 3) := by decide +kernel
theorem dX4_dropFirst_10 : decode cX4_dropFirst 10 = .ok (.iload_n 1, 1) := by decide +kernel
theorem dX4_dropFirst_11 : decode cX4_dropFirst 11 = .ok (.iconst 0, 1) := by decide +kernel
theorem dX4_dropFirst_12 : decode cX4_dropFirst 12 = .ok (.invokestatic 13, 3) := by decide +kernel
theorem dX4_dropFirst_15 : decode cX4_dropFirst 15 = .ok (.istore_n 3, 1) := by decide +kernel
theorem dX4_dropFirst_16 : decode cX4_dropFirst 16 = .ok (.iload_n 3, 1) := by decide +kernel
theorem dX4_dropFirst_17 : decode cX4_dropFirst 17 = .ok (.iload_n 2, 1) := by decide +kernel
theorem dX4_dropFirst_18 : decode cX4_dropFirst 18 = .ok (.if_icmp .ge 31, 3) := by decide +kernel
theorem dX4_dropFirst_21 : decode cX4_dropFirst 21 = .ok (.aload_n 0, 1) := by decide +kernel
theorem dX4_dropFirst_22 : decode cX4_dropFirst 22 = .ok (.aload_n 0, 1) := by decide +kernel
theorem dX4_dropFirst_23 : decode cX4_dropFirst 23 = .ok (.getfield 22, 3) := by decide +kernel
theorem dX4_dropFirst_26 : decode cX4_dropFirst 26 = .ok (.iload_n 3, 1) := by decide +kernel
theorem dX4_dropFirst_27 : decode cX4_dropFirst 27 = .ok (.iaload, 1) := by decide +kernel
theorem dX4_dropFirst_28 : decode cX4_dropFirst 28 = .ok (.aload_n 0, 1) := by decide +kernel
theorem dX4_dropFirst_29 : decode cX4_dropFirst 29 = .ok (.getfield 26, 3) := by decide +kernel
theorem dX4_dropFirst_32 : decode cX4_dropFirst 32 = .ok (.iload_n 3, 1) := by decide +kernel
theorem dX4_dropFirst_33 : decode cX4_dropFirst 33 = .ok (.iaload, 1) := by decide +kernel
theorem dX4_dropFirst_34 : decode cX4_dropFirst 34 = .ok (.aload_n 0, 1) := by decide +kernel
theorem dX4_dropFirst_35 : decode cX4_dropFirst 35 = .ok (.getfield 29, 3) := by decide +kernel
theorem dX4_dropFirst_38 : decode cX4_dropFirst 38 = .ok (.iload_n 3, 1) := by decide +kernel
theorem dX4_dropFirst_39 : decode cX4_dropFirst 39 = .ok (.iaload, 1) := by decide +kernel
theorem dX4_dropFirst_40 : decode cX4_dropFirst 40 = .ok (.invokevirtual 32, 3) := by decide +kernel
theorem dX4_dropFirst_43 : decode cX4_dropFirst 43 = .ok (.iinc 3 1, 3) := by decide +kernel
theorem dX4_dropFirst_46 : decode cX4_dropFirst 46 = .ok (.goto (-30), 3) := by decide +kernel
theorem dX4_dropFirst_49 : decode cX4_dropFirst 49 = .ok (.return_, 1) := by decide +kernel
theorem dX4_sizeAt_0 : decode cX4_sizeAt 0 = .ok (.iconst 0, 1) := by decide +kernel
theorem dX4_sizeAt_1 : decode cX4_sizeAt 1 = .ok (.istore_n 2, 1) := by decide +kernel
theorem dX4_sizeAt_2 : decode cX4_sizeAt 2 = .ok (.iconst 0, 1) := by decide +kernel
theorem dX4_sizeAt_3 : decode cX4_sizeAt 3 = .ok (.istore_n 3, 1) := by decide +kernel
theorem dX4_sizeAt_4 : decode cX4_sizeAt 4 = .ok (.iload_n 3, 1) := by decide +kernel
theorem dX4_sizeAt_5 : decode cX4_sizeAt 5 = .ok (.aload_n 0, 1) := by decide +kernel
theorem dX4_sizeAt_6 : decode cX4_sizeAt 6 = .ok (.getfield 7, 3) := by decide +kernel
theorem dX4_sizeAt_9 : decode cX4_sizeAt 9 = .ok (.if_icmp .ge 22, 3) := by decide +kernel
theorem dX4_sizeAt_12 : decode cX4_sizeAt 12 = .ok (.aload_n 0, 1) := by decide +kernel
theorem dX4_sizeAt_13 : decode cX4_sizeAt 13 = .ok (.getfield 22, 3) := by decide +kernel
theorem dX4_sizeAt_16 : decode cX4_sizeAt 16 = .ok (.iload_n 3, 1) := by decide +kernel
theorem dX4_sizeAt_17 : decode cX4_sizeAt 17 = .ok (.iaload, 1) := by decide +kernel
theorem dX4_sizeAt_18 : decode cX4_sizeAt 18 = .ok (.iload_n 1, 1) := by decide +kernel
theorem dX4_sizeAt_19 : decode cX4_sizeAt 19 = .ok (.if_icmp .ne 6, 3) := by decide +kernel
theorem dX4_sizeAt_22 : decode cX4_sizeAt 22 = .ok (.iinc 2 1, 3) := by decide +kernel
theorem dX4_sizeAt_25 : decode cX4_sizeAt 25 = .ok (.iinc 3 1, 3) := by decide +kernel
theorem dX4_sizeAt_28 : decode cX4_sizeAt 28 = .ok (.goto (-24), 3) := by decide +kernel
theorem dX4_sizeAt_31 : decode cX4_sizeAt 31 = .ok (.iload_n 2, 1) := by decide +kernel
theorem dX4_sizeAt_32 : decode cX4_sizeAt 32 = .ok (.ireturn, 1) := by decide +kernel
set_option maxRecDepth 20000 in
theorem ggX4_dropSide_X4_append : GoodIn wsX4_dropSide wsX4_append := goodIn_r _ [9, 1, 10, 2, 3, 4, 11, 12, 13, 14, 15] (by decide +kernel) (by decide +kernel)
set_option maxRecDepth 20000 in
theorem gX4_dropSide_X4_append : GoodIn wsX4_dropSide (wsV RX4 32 RX4 yX4_append wsX4_append) := goodIn_app (goodIn_of _ (by decide +kernel)) ggX4_dropSide_X4_append
theorem dX4_dropSide_0 : decode cX4_dropSide 0 = .ok (.aload_n 0, 1) := by decide +kernel
theorem dX4_dropSide_1 : decode cX4_dropSide 1 = .ok (.getfield 7, 3) := by decide +kernel
theorem dX4_dropSide_4 : decode cX4_dropSide 4 = .ok (.istore_n 2, 1) := by decide +kernel
theorem dX4_dropSide_5 : decode cX4_dropSide 5 = .ok (.aload_n 0, 1) := by decide +kernel
theorem dX4_dropSide_6 : decode cX4_dropSide 6 = .ok (.iconst 0, 1) := by decide +kernel
theorem dX4_dropSide_7 : decode cX4_dropSide 7 = .ok (.putfield 7, 3) := by decide +kernel
theorem dX4_dropSide_10 : decode cX4_dropSide 10 = .ok (.iconst 0, 1) := by decide +kernel
theorem dX4_dropSide_11 : decode cX4_dropSide 11 = .ok (.istore_n 3, 1) := by decide +kernel
theorem dX4_dropSide_12 : decode cX4_dropSide 12 = .ok (.iload_n 3, 1) := by decide +kernel
theorem dX4_dropSide_13 : decode cX4_dropSide 13 = .ok (.iload_n 2, 1) := by decide +kernel
theorem dX4_dropSide_14 : decode cX4_dropSide 14 = .ok (.if_icmp .ge 41, 3) := by decide +kernel
theorem dX4_dropSide_17 : decode cX4_dropSide 17 = .ok (.aload_n 0, 1) := by decide +kernel
theorem dX4_dropSide_18 : decode cX4_dropSide 18 = .ok (.getfield 22, 3) := by decide +kernel
theorem dX4_dropSide_21 : decode cX4_dropSide 21 = .ok (.iload_n 3, 1) := by decide +kernel
theorem dX4_dropSide_22 : decode cX4_dropSide 22 = .ok (.iaload, 1) := by decide +kernel
theorem dX4_dropSide_23 : decode cX4_dropSide 23 = .ok (.iload_n 1, 1) := by decide +kernel
theorem dX4_dropSide_24 : decode cX4_dropSide 24 = .ok (.if_icmp .eq 25, 3) := by decide +kernel
theorem dX4_dropSide_27 : decode cX4_dropSide 27 = .ok (.aload_n 0, 1) := by decide +kernel
theorem dX4_dropSide_28 : decode cX4_dropSide 28 = .ok (.aload_n 0, 1) := by decide +kernel
theorem dX4_dropSide_29 : decode cX4_dropSide 29 = .ok (.getfield 22, 3) := by decide +kernel
theorem dX4_dropSide_32 : decode cX4_dropSide 32 = .ok (.iload_n 3, 1) := by decide +kernel
theorem dX4_dropSide_33 : decode cX4_dropSide 33 = .ok (.iaload, 1) := by decide +kernel
theorem dX4_dropSide_34 : decode cX4_dropSide 34 = .ok (.aload_n 0, 1) := by decide +kernel
theorem dX4_dropSide_35 : decode cX4_dropSide 35 = .ok (.getfield 26, 3) := by decide +kernel
theorem dX4_dropSide_38 : decode cX4_dropSide 38 = .ok (.iload_n 3, 1) := by decide +kernel
theorem dX4_dropSide_39 : decode cX4_dropSide 39 = .ok (.iaload, 1) := by decide +kernel
theorem dX4_dropSide_40 : decode cX4_dropSide 40 = .ok (.aload_n 0, 1) := by decide +kernel
theorem dX4_dropSide_41 : decode cX4_dropSide 41 = .ok (.getfield 29, 3) := by decide +kernel
theorem dX4_dropSide_44 : decode cX4_dropSide 44 = .ok (.iload_n 3, 1) := by decide +kernel
theorem dX4_dropSide_45 : decode cX4_dropSide 45 = .ok (.iaload, 1) := by decide +kernel
theorem dX4_dropSide_46 : decode cX4_dropSide 46 = .ok (.invokevirtual 32, 3) := by decide +kernel
theorem dX4_dropSide_49 : decode cX4_dropSide 49 = .ok (.iinc 3 1, 3) := by decide +kernel
theorem dX4_dropSide_52 : decode cX4_dropSide 52 = .ok (.goto (-40), 3) := by decide +kernel
theorem dX4_dropSide_55 : decode cX4_dropSide 55 = .ok (.iload_n 2, 1) := by decide +kernel
theorem dX4_dropSide_56 : decode cX4_dropSide 56 = .ok (.aload_n 0, 1) := by decide +kernel
theorem dX4_dropSide_57 : decode cX4_dropSide 57 = .ok (.getfield 7, 3) := by decide +kernel
theorem dX4_dropSide_60 : decode cX4_dropSide 60 = .ok (.isub, 1) := by decide +kernel
theorem dX4_dropSide_61 : decode cX4_dropSide 61 = .ok (.ireturn, 1) := by decide +kernel
set_option maxRecDepth 20000 in
theorem ggX5_init_X4_init : GoodIn wsX5_init wsX4_init := goodIn_r _ [26, 27, 2, 3, 28, 29, 30, 31, 32, 33, 4, 34, 35, 36, 54, 55, 56, 57, 58] (by decide +kernel) (by decide +kernel)
set_option maxRecDepth 20000 in
theorem gX5_init_X4_init : GoodIn wsX5_init (wsX4_init) := ggX5_init_X4_init
set_option maxRecDepth 20000 in
theorem ggX5_init_X5_coverWith : GoodIn wsX5_init wsX5_coverWith := goodIn_r _ [41, 5, 42, 43, 44, 45, 46, 47, 48, 49, 50, 51, 52, 53] (by decide +kernel) (by decide +kernel)
set_option maxRecDepth 20000 in
theorem gX5_init_X5_coverWith : GoodIn wsX5_init (wsV RX5 55 RX5 yX5_coverWith wsX5_coverWith) := goodIn_app (goodIn_of _ (by decide +kernel)) ggX5_init_X5_coverWith
theorem dX5_init_0 : decode cX5_init 0 = .ok (.aload_n 0, 1) := by decide +kernel
theorem dX5_init_1 : decode cX5_init 1 = .ok (.invokespecial 3, 3) := by decide +kernel
theorem dX5_init_4 : decode cX5_init 4 = .ok (.aload_n 0, 1) := by decide +kernel
theorem dX5_init_5 : decode cX5_init 5 = .ok (.sipush 144, 3) := by decide +kernel
theorem dX5_init_8 : decode cX5_init 8 = .ok (.newarray .int, 2) := by decide +kernel
theorem dX5_init_10 : decode cX5_init 10 = .ok (.putfield 9, 3) := by decide +kernel
theorem dX5_init_13 : decode cX5_init 13 = .ok (.aload_n 0, 1) := by decide +kernel
theorem dX5_init_14 : decode cX5_init 14 = .ok (.iconst 4, 1) := by decide +kernel
theorem dX5_init_15 : decode cX5_init 15 = .ok (.newarray .int, 2) := by decide +kernel
theorem dX5_init_17 : decode cX5_init 17 = .ok (.putfield 15, 3) := by decide +kernel
theorem dX5_init_20 : decode cX5_init 20 = .ok (.aload_n 0, 1) := by decide +kernel
theorem dX5_init_21 : decode cX5_init 21 = .ok (.iconst 4, 1) := by decide +kernel
theorem dX5_init_22 : decode cX5_init 22 = .ok (.newarray .int, 2) := by decide +kernel
theorem dX5_init_24 : decode cX5_init 24 = .ok (.putfield 18, 3) := by decide +kernel
theorem dX5_init_27 : decode cX5_init 27 = .ok (.aload_n 0, 1) := by decide +kernel
theorem dX5_init_28 : decode cX5_init 28 = .ok (.iconst 0, 1) := by decide +kernel
theorem dX5_init_29 : decode cX5_init 29 = .ok (.putfield 21, 3) := by decide +kernel
theorem dX5_init_32 : decode cX5_init 32 = .ok (.aload_n 0, 1) := by decide +kernel
theorem dX5_init_33 : decode cX5_init 33 = .ok (.iconst 4, 1) := by decide +kernel
theorem dX5_init_34 : decode cX5_init 34 = .ok (.newarray .int, 2) := by decide +kernel
theorem dX5_init_36 : decode cX5_init 36 = .ok (.putfield 25, 3) := by decide +kernel
theorem dX5_init_39 : decode cX5_init 39 = .ok (.aload_n 0, 1) := by decide +kernel
theorem dX5_init_40 : decode cX5_init 40 = .ok (.new 28, 3) := by decide +kernel
theorem dX5_init_43 : decode cX5_init 43 = .ok (.dup, 1) := by decide +kernel
theorem dX5_init_44 : decode cX5_init 44 = .ok (.bipush 16, 2) := by decide +kernel
theorem dX5_init_46 : decode cX5_init 46 = .ok (.invokespecial 30, 3) := by decide +kernel
theorem dX5_init_49 : decode cX5_init 49 = .ok (.putfield 33, 3) := by decide +kernel
theorem dX5_init_52 : decode cX5_init 52 = .ok (.aload_n 0, 1) := by decide +kernel
theorem dX5_init_53 : decode cX5_init 53 = .ok (.iconst (-1), 1) := by decide +kernel
theorem dX5_init_54 : decode cX5_init 54 = .ok (.putfield 37, 3) := by decide +kernel
theorem dX5_init_57 : decode cX5_init 57 = .ok (.aload_n 0, 1) := by decide +kernel
theorem dX5_init_58 : decode cX5_init 58 = .ok (.sipush 720, 3) := by decide +kernel
theorem dX5_init_61 : decode cX5_init 61 = .ok (.putfield 40, 3) := by decide +kernel
theorem dX5_init_64 : decode cX5_init 64 = .ok (.aload_n 0, 1) := by decide +kernel
theorem dX5_init_65 : decode cX5_init 65 = .ok (.iconst 0, 1) := by decide +kernel
theorem dX5_init_66 : decode cX5_init 66 = .ok (.putfield 43, 3) := by decide +kernel
theorem dX5_init_69 : decode cX5_init 69 = .ok (.aload_n 0, 1) := by decide +kernel
theorem dX5_init_70 : decode cX5_init 70 = .ok (.iconst 0, 1) := by decide +kernel
theorem dX5_init_71 : decode cX5_init 71 = .ok (.putfield 46, 3) := by decide +kernel
theorem dX5_init_74 : decode cX5_init 74 = .ok (.aload_n 0, 1) := by decide +kernel
theorem dX5_init_75 : decode cX5_init 75 = .ok (.iconst 0, 1) := by decide +kernel
theorem dX5_init_76 : decode cX5_init 76 = .ok (.putfield 49, 3) := by decide +kernel
theorem dX5_init_79 : decode cX5_init 79 = .ok (.aload_n 0, 1) := by decide +kernel
theorem dX5_init_80 : decode cX5_init 80 = .ok (.iconst 0, 1) := by decide +kernel
theorem dX5_init_81 : decode cX5_init 81 = .ok (.putfield 52, 3) := by decide +kernel
theorem dX5_init_84 : decode cX5_init 84 = .ok (.aload_n 0, 1) := by decide +kernel
theorem dX5_init_85 : decode cX5_init 85 = .ok (.iconst 5, 1) := by decide +kernel
theorem dX5_init_86 : decode cX5_init 86 = .ok (.invokevirtual 55, 3) := by decide +kernel
theorem dX5_init_89 : decode cX5_init 89 = .ok (.getstatic 58, 3) := by decide +kernel
theorem dX5_init_92 : decode cX5_init 92 = .ok (.iconst 0, 1) := by decide +kernel
theorem dX5_init_93 : decode cX5_init 93 = .ok (.aload_n 0, 1) := by decide +kernel
theorem dX5_init_94 : decode cX5_init 94 = .ok (.getfield 25, 3) := by decide +kernel
theorem dX5_init_97 : decode cX5_init 97 = .ok (.iconst 0, 1) := by decide +kernel
theorem dX5_init_98 : decode cX5_init 98 = .ok (.iconst 4, 1) := by decide +kernel
theorem dX5_init_99 : decode cX5_init 99 = .ok (.invokestatic 61, 3) := by decide +kernel
theorem dX5_init_102 : decode cX5_init 102 = .ok (.return_, 1) := by decide +kernel
set_option maxRecDepth 20000 in
theorem ggX5_copyFrom_X4_copyFrom : GoodIn wsX5_copyFrom wsX4_copyFrom := goodIn_r _ [21, 22, 23, 24, 25, 20, 26, 27, 28, 29, 30, 31, 32, 33, 34, 47, 48, 49, 50, 51] (by decide +kernel) (by decide +kernel)
set_option maxRecDepth 20000 in
theorem gX5_copyFrom_X4_copyFrom : GoodIn wsX5_copyFrom (wsV RX5 67 RX4 yX4_copyFrom wsX4_copyFrom) := goodIn_app (goodIn_of _ (by decide +kernel)) ggX5_copyFrom_X4_copyFrom
theorem dX5_copyFrom_0 : decode cX5_copyFrom 0 = .ok (.aload_n 1, 1) := by decide +kernel
theorem dX5_copyFrom_1 : decode cX5_copyFrom 1 = .ok (.getfield 9, 3) := by decide +kernel
theorem dX5_copyFrom_4 : decode cX5_copyFrom 4 = .ok (.iconst 0, 1) := by decide +kernel
theorem dX5_copyFrom_5 : decode cX5_copyFrom 5 = .ok (.aload_n 0, 1) := by decide +kernel
theorem dX5_copyFrom_6 : decode cX5_copyFrom 6 = .ok (.getfield 9, 3) := by decide +kernel
theorem dX5_copyFrom_9 : decode cX5_copyFrom 9 = .ok (.iconst 0, 1) := by decide +kernel
theorem dX5_copyFrom_10 : decode cX5_copyFrom 10 = .ok (.sipush 144, 3) := by decide +kernel
theorem dX5_copyFrom_13 : decode cX5_copyFrom 13 = .ok (.invokestatic 61, 3) := by decide +kernel
theorem dX5_copyFrom_16 : decode cX5_copyFrom 16 = .ok (.aload_n 1, 1) := by decide +kernel
theorem dX5_copyFrom_17 : decode cX5_copyFrom 17 = .ok (.getfield 15, 3) := by decide +kernel
theorem dX5_copyFrom_20 : decode cX5_copyFrom 20 = .ok (.iconst 0, 1) := by decide +kernel
theorem dX5_copyFrom_21 : decode cX5_copyFrom 21 = .ok (.aload_n 0, 1) := by decide +kernel
theorem dX5_copyFrom_22 : decode cX5_copyFrom 22 = .ok (.getfield 15, 3) := by decide +kernel
theorem dX5_copyFrom_25 : decode cX5_copyFrom 25 = .ok (.iconst 0, 1) := by decide +kernel
theorem dX5_copyFrom_26 : decode cX5_copyFrom 26 = .ok (.iconst 4, 1) := by decide +kernel
theorem dX5_copyFrom_27 : decode cX5_copyFrom 27 = .ok (.invokestatic 61, 3) := by decide +kernel
theorem dX5_copyFrom_30 : decode cX5_copyFrom 30 = .ok (.aload_n 1, 1) := by decide +kernel
theorem dX5_copyFrom_31 : decode cX5_copyFrom 31 = .ok (.getfield 18, 3) := by decide +kernel
theorem dX5_copyFrom_34 : decode cX5_copyFrom 34 = .ok (.iconst 0, 1) := by decide +kernel
theorem dX5_copyFrom_35 : decode cX5_copyFrom 35 = .ok (.aload_n 0, 1) := by decide +kernel
theorem dX5_copyFrom_36 : decode cX5_copyFrom 36 = .ok (.getfield 18, 3) := by decide +kernel
theorem dX5_copyFrom_39 : decode cX5_copyFrom 39 = .ok (.iconst 0, 1) := by decide +kernel
theorem dX5_copyFrom_40 : decode cX5_copyFrom 40 = .ok (.iconst 4, 1) := by decide +kernel
theorem dX5_copyFrom_41 : decode cX5_copyFrom 41 = .ok (.invokestatic 61, 3) := by decide +kernel
theorem dX5_copyFrom_44 : decode cX5_copyFrom 44 = .ok (.aload_n 0, 1) := by decide +kernel
theorem dX5_copyFrom_45 : decode cX5_copyFrom 45 = .ok (.aload_n 1, 1) := by decide +kernel
theorem dX5_copyFrom_46 : decode cX5_copyFrom 46 = .ok (.getfield 21, 3) := by decide +kernel
theorem dX5_copyFrom_49 : decode cX5_copyFrom 49 = .ok (.putfield 21, 3) := by decide +kernel
theorem dX5_copyFrom_52 : decode cX5_copyFrom 52 = .ok (.aload_n 1, 1) := by decide +kernel
theorem dX5_copyFrom_53 : decode cX5_copyFrom 53 = .ok (.getfield 25, 3) := by decide +kernel
theorem dX5_copyFrom_56 : decode cX5_copyFrom 56 = .ok (.iconst 0, 1) := by decide +kernel
theorem dX5_copyFrom_57 : decode cX5_copyFrom 57 = .ok (.aload_n 0, 1) := by decide +kernel
theorem dX5_copyFrom_58 : decode cX5_copyFrom 58 = .ok (.getfield 25, 3) := by decide +kernel
theorem dX5_copyFrom_61 : decode cX5_copyFrom 61 = .ok (.iconst 0, 1) := by decide +kernel
theorem dX5_copyFrom_62 : decode cX5_copyFrom 62 = .ok (.iconst 4, 1) := by decide +kernel
theorem dX5_copyFrom_63 : decode cX5_copyFrom 63 = .ok (.invokestatic 61, 3) := by decide +kernel
theorem dX5_copyFrom_66 : decode cX5_copyFrom 66 = .ok (.aload_n 0, 1) := by decide +kernel
theorem dX5_copyFrom_67 : decode cX5_copyFrom 67 = .ok (.getfield 33, 3) := by decide +kernel
theorem dX5_copyFrom_70 : decode cX5_copyFrom 70 = .ok (.aload_n 1, 1) := by decide +kernel
theorem dX5_copyFrom_71 : decode cX5_copyFrom 71 = .ok (.getfield 33, 3) := by decide +kernel
theorem dX5_copyFrom_74 : decode cX5_copyFrom 74 = .ok (.invokevirtual 67, 3) := by decide +kernel
theorem dX5_copyFrom_77 : decode cX5_copyFrom 77 = .ok (.aload_n 0, 1) := by decide +kernel
theorem dX5_copyFrom_78 : decode cX5_copyFrom 78 = .ok (.aload_n 1, 1) := by decide +kernel
theorem dX5_copyFrom_79 : decode cX5_copyFrom 79 = .ok (.getfield 37, 3) := by decide +kernel
theorem dX5_copyFrom_82 : decode cX5_copyFrom 82 = .ok (.putfield 37, 3) := by decide +kernel
theorem dX5_copyFrom_85 : decode cX5_copyFrom 85 = .ok (.aload_n 0, 1) := by decide +kernel
theorem dX5_copyFrom_86 : decode cX5_copyFrom 86 = .ok (.aload_n 1, 1) := by decide +kernel
theorem dX5_copyFrom_87 : decode cX5_copyFrom 87 = .ok (.getfield 40, 3) := by decide +kernel
theorem dX5_copyFrom_90 : decode cX5_copyFrom 90 = .ok (.putfield 40, 3) := by decide +kernel
theorem dX5_copyFrom_93 : decode cX5_copyFrom 93 = .ok (.aload_n 0, 1) := by decide +kernel
theorem dX5_copyFrom_94 : decode cX5_copyFrom 94 = .ok (.aload_n 1, 1) := by decide +kernel
theorem dX5_copyFrom_95 : decode cX5_copyFrom 95 = .ok (.getfield 43, 3) := by decide +kernel
theorem dX5_copyFrom_98 : decode cX5_copyFrom 98 = .ok (.putfield 43, 3) := by decide +kernel
theorem dX5_copyFrom_101 : decode cX5_copyFrom 101 = .ok (.aload_n 0, 1) := by decide +kernel
theorem dX5_copyFrom_102 : decode cX5_copyFrom 102 = .ok (.aload_n 1, 1) := by decide +kernel
theorem dX5_copyFrom_103 : decode cX5_copyFrom 103 = .ok (.getfield 46, 3) := by decide +kernel
theorem dX5_copyFrom_106 : decode cX5_copyFrom 106 = .ok (.putfield 46, 3) := by decide +kernel
theorem dX5_copyFrom_109 : decode cX5_copyFrom 109 = .ok (.aload_n 0, 1) := by decide +kernel
theorem dX5_copyFrom_110 : decode cX5_copyFrom 110 = .ok (.aload_n 1, 1) := by decide +kernel
theorem dX5_copyFrom_111 : decode cX5_copyFrom 111 = .ok (.getfield 49, 3) := by decide +kernel
theorem dX5_copyFrom_114 : decode cX5_copyFrom 114 = .ok (.putfield 49, 3) := by decide +kernel
theorem dX5_copyFrom_117 : decode cX5_copyFrom 117 = .ok (.aload_n 0, 1) := by decide +kernel
theorem dX5_copyFrom_118 : decode cX5_copyFrom 118 = .ok (.aload_n 1, 1) := by decide +kernel
theorem dX5_copyFrom_119 : decode cX5_copyFrom 119 = .ok (.getfield 52, 3) := by decide +kernel
theorem dX5_copyFrom_122 : decode cX5_copyFrom 122 = .ok (.putfield 52, 3) := by decide +kernel
theorem dX5_copyFrom_125 : decode cX5_copyFrom 125 = .ok (.return_, 1) := by decide +kernel
theorem dX5_coverWith_0 : decode cX5_coverWith 0 = .ok (.iconst 0, 1) := by decide +kernel
theorem dX5_coverWith_1 : decode cX5_coverWith 1 = .ok (.istore_n 2, 1) := by decide +kernel
theorem dX5_coverWith_2 : decode cX5_coverWith 2 = .ok (.iload_n 2, 1) := by decide +kernel
theorem dX5_coverWith_3 : decode cX5_coverWith 3 = .ok (.sipush 144, 3) := by decide +kernel
theorem dX5_coverWith_6 : decode cX5_coverWith 6 = .ok (.if_icmp .ge 16, 3) := by decide +kernel
theorem dX5_coverWith_9 : decode cX5_coverWith 9 = .ok (.aload_n 0, 1) := by decide +kernel
theorem dX5_coverWith_10 : decode cX5_coverWith 10 = .ok (.getfield 9, 3) := by decide +kernel
theorem dX5_coverWith_13 : decode cX5_coverWith 13 = .ok (.iload_n 2, 1) := by decide +kernel
theorem dX5_coverWith_14 : decode cX5_coverWith 14 = .ok (.iload_n 1, 1) := by decide +kernel
theorem dX5_coverWith_15 : decode cX5_coverWith 15 = .ok (.iastore, 1) := by decide +kernel
theorem dX5_coverWith_16 : decode cX5_coverWith 16 = .ok (.iinc 2 1, 3) := by decide +kernel
theorem dX5_coverWith_19 : decode cX5_coverWith 19 = .ok (.goto (-17), 3) := by decide +kernel
theorem dX5_coverWith_22 : decode cX5_coverWith 22 = .ok (.return_, 1) := by decide +kernel
theorem dX5_allGrains_0 : decode cX5_allGrains 0 = .ok (.iconst 0, 1) := by decide +kernel
theorem dX5_allGrains_1 : decode cX5_allGrains 1 = .ok (.istore_n 1, 1) := by decide +kernel
theorem dX5_allGrains_2 : decode cX5_allGrains 2 = .ok (.iconst 0, 1) := by decide +kernel
theorem dX5_allGrains_3 : decode cX5_allGrains 3 = .ok (.istore_n 2, 1) := by decide +kernel
theorem dX5_allGrains_4 : decode cX5_allGrains 4 = .ok (.iload_n 2, 1) := by decide +kernel
theorem dX5_allGrains_5 : decode cX5_allGrains 5 = .ok (.sipush 144, 3) := by decide +kernel
theorem dX5_allGrains_8 : decode cX5_allGrains 8 = .ok (.if_icmp .ge 18, 3) := by decide +kernel
theorem dX5_allGrains_11 : decode cX5_allGrains 11 = .ok (.iload_n 1, 1) := by decide +kernel
theorem dX5_allGrains_12 : decode cX5_allGrains 12 = .ok (.aload_n 0, 1) := by decide +kernel
theorem dX5_allGrains_13 : decode cX5_allGrains 13 = .ok (.getfield 9, 3) := by decide +kernel
theorem dX5_allGrains_16 : decode cX5_allGrains 16 = .ok (.iload_n 2, 1) := by decide +kernel
theorem dX5_allGrains_17 : decode cX5_allGrains 17 = .ok (.iaload, 1) := by decide +kernel
theorem dX5_allGrains_18 : decode cX5_allGrains 18 = .ok (.iadd, 1) := by decide +kernel
theorem dX5_allGrains_19 : decode cX5_allGrains 19 = .ok (.istore_n 1, 1) := by decide +kernel
theorem dX5_allGrains_20 : decode cX5_allGrains 20 = .ok (.iinc 2 1, 3) := by decide +kernel
theorem dX5_allGrains_23 : decode cX5_allGrains 23 = .ok (.goto (-19), 3) := by decide +kernel
theorem dX5_allGrains_26 : decode cX5_allGrains 26 = .ok (.iload_n 1, 1) := by decide +kernel
theorem dX5_allGrains_27 : decode cX5_allGrains 27 = .ok (.ireturn, 1) := by decide +kernel
theorem dX5_mostGrains_0 : decode cX5_mostGrains 0 = .ok (.iconst 0, 1) := by decide +kernel
theorem dX5_mostGrains_1 : decode cX5_mostGrains 1 = .ok (.istore_n 1, 1) := by decide +kernel
theorem dX5_mostGrains_2 : decode cX5_mostGrains 2 = .ok (.iconst 0, 1) := by decide +kernel
theorem dX5_mostGrains_3 : decode cX5_mostGrains 3 = .ok (.istore_n 2, 1) := by decide +kernel
theorem dX5_mostGrains_4 : decode cX5_mostGrains 4 = .ok (.iload_n 2, 1) := by decide +kernel
theorem dX5_mostGrains_5 : decode cX5_mostGrains 5 = .ok (.sipush 144, 3) := by decide +kernel
theorem dX5_mostGrains_8 : decode cX5_mostGrains 8 = .ok (.if_icmp .ge 20, 3) := by decide +kernel
theorem dX5_mostGrains_11 : decode cX5_mostGrains 11 = .ok (.iload_n 1, 1) := by decide +kernel
theorem dX5_mostGrains_12 : decode cX5_mostGrains 12 = .ok (.aload_n 0, 1) := by decide +kernel
theorem dX5_mostGrains_13 : decode cX5_mostGrains 13 = .ok (.getfield 9, 3) := by decide +kernel
theorem dX5_mostGrains_16 : decode cX5_mostGrains 16 = .ok (.iload_n 2, 1) := by decide +kernel
theorem dX5_mostGrains_17 : decode cX5_mostGrains 17 = .ok (.iaload, 1) := by decide +kernel
theorem dX5_mostGrains_18 : decode cX5_mostGrains 18 = .ok (.invokestatic 71, 3) := by decide +kernel
theorem dX5_mostGrains_21 : decode cX5_mostGrains 21 = .ok (.istore_n 1, 1) := by decide +kernel
theorem dX5_mostGrains_22 : decode cX5_mostGrains 22 = .ok (.iinc 2 1, 3) := by decide +kernel
theorem dX5_mostGrains_25 : decode cX5_mostGrains 25 = .ok (.goto (-21), 3) := by decide +kernel
theorem dX5_mostGrains_28 : decode cX5_mostGrains 28 = .ok (.iload_n 1, 1) := by decide +kernel
theorem dX5_mostGrains_29 : decode cX5_mostGrains 29 = .ok (.ireturn, 1) := by decide +kernel
theorem dX5_clampOn_0 : decode cX5_clampOn 0 = .ok (.iconst 0, 1) := by decide +kernel
theorem dX5_clampOn_1 : decode cX5_clampOn 1 = .ok (.istore_n 3, 1) := by decide +kernel
theorem dX5_clampOn_2 : decode cX5_clampOn 2 = .ok (.iload_n 3, 1) := by decide +kernel
theorem dX5_clampOn_3 : decode cX5_clampOn 3 = .ok (.aload_n 0, 1) := by decide +kernel
theorem dX5_clampOn_4 : decode cX5_clampOn 4 = .ok (.getfield 21, 3) := by decide +kernel
theorem dX5_clampOn_7 : decode cX5_clampOn 7 = .ok (.if_icmp .ge 31, 3) := by decide +kernel
theorem dX5_clampOn_10 : decode cX5_clampOn 10 = .ok (.aload_n 0, 1) := by decide +kernel
theorem dX5_clampOn_11 : decode cX5_clampOn 11 = .ok (.getfield 15, 3) := by decide +kernel
theorem dX5_clampOn_14 : decode cX5_clampOn 14 = .ok (.iload_n 3, 1) := by decide +kernel
theorem dX5_clampOn_15 : decode cX5_clampOn 15 = .ok (.iaload, 1) := by decide +kernel
theorem dX5_clampOn_16 : decode cX5_clampOn 16 = .ok (.iload_n 1, 1) := by decide +kernel
theorem dX5_clampOn_17 : decode cX5_clampOn 17 = .ok (.if_icmp .ne 15, 3) := by decide +kernel
theorem dX5_clampOn_20 : decode cX5_clampOn 20 = .ok (.aload_n 0, 1) := by decide +kernel
theorem dX5_clampOn_21 : decode cX5_clampOn 21 = .ok (.getfield 18, 3) := by decide +kernel
theorem dX5_clampOn_24 : decode cX5_clampOn 24 = .ok (.iload_n 3, 1) := by decide +kernel
theorem dX5_clampOn_25 : decode cX5_clampOn 25 = .ok (.iaload, 1) := by decide +kernel
theorem dX5_clampOn_26 : decode cX5_clampOn 26 = .ok (.iload_n 2, 1) := by decide +kernel
theorem dX5_clampOn_27 : decode cX5_clampOn 27 = .ok (.if_icmp .ne 5, 3) := by decide +kernel
theorem dX5_clampOn_30 : decode cX5_clampOn 30 = .ok (.iload_n 3, 1) := by decide +kernel
theorem dX5_clampOn_31 : decode cX5_clampOn 31 = .ok (.ireturn, 1) := by decide +kernel
theorem dX5_clampOn_32 : decode cX5_clampOn 32 = .ok (.iinc 3 1, 3) := by decide +kernel
theorem dX5_clampOn_35 : decode cX5_clampOn 35 = .ok (.goto (-33), 3) := by decide +kernel
theorem dX5_clampOn_38 : decode cX5_clampOn 38 = .ok (.iconst (-1), 1) := by decide +kernel
theorem dX5_clampOn_39 : decode cX5_clampOn 39 = .ok (.ireturn, 1) := by decide +kernel
theorem dX5_dropClamp_0 : decode cX5_dropClamp 0 = .ok (.iload_n 1, 1) := by decide +kernel
theorem dX5_dropClamp_1 : decode cX5_dropClamp 1 = .ok (.ifCond .lt 11, 3) := by decide +kernel
theorem dX5_dropClamp_4 : decode cX5_dropClamp 4 = .ok (.iload_n 1, 1) := by decide +kernel
theorem dX5_dropClamp_5 : decode cX5_dropClamp 5 = .ok (.aload_n 0, 1) := by decide +kernel
theorem dX5_dropClamp_6 : decode cX5_dropClamp 6 = .ok (.getfield 21, 3) := by decide +kernel
theorem dX5_dropClamp_9 : decode cX5_dropClamp 9 = .ok (.if_icmp .lt 4, 3) := by decide +kernel
theorem dX5_dropClamp_12 : decode cX5_dropClamp 12 = .ok (.return_, 1) := by decide +kernel
theorem dX5_dropClamp_13 : decode cX5_dropClamp 13 = .ok (.iload_n 1, 1) := by decide +kernel
theorem dX5_dropClamp_14 : decode cX5_dropClamp 14 = .ok (.istore_n 2, 1) := by decide +kernel
theorem dX5_dropClamp_15 : decode cX5_dropClamp 15 = .ok (.iload_n 2, 1) := by decide +kernel
theorem dX5_dropClamp_16 : decode cX5_dropClamp 16 = .ok (.aload_n 0, 1) := by decide +kernel
theorem dX5_dropClamp_17 : decode cX5_dropClamp 17 = .ok (.getfield 21, 3) := by decide +kernel
theorem dX5_dropClamp_20 : decode cX5_dropClamp 20 = .ok (.iconst 1, 1) := by decide +kernel
theorem dX5_dropClamp_21 : decode cX5_dropClamp 21 = .ok (.isub, 1) := by decide +kernel
theorem dX5_dropClamp_22 : decode cX5_dropClamp 22 = .ok (.if_icmp .ge 37, 3) := by decide +kernel
theorem dX5_dropClamp_25 : decode cX5_dropClamp 25 = .ok (.aload_n 0, 1) := by decide +kernel
theorem dX5_dropClamp_26 : decode cX5_dropClamp 26 = .ok (.getfield 15, 3) := by decide +kernel
theorem dX5_dropClamp_29 : decode cX5_dropClamp 29 = .ok (.iload_n 2, 1) := by decide +kernel
theorem dX5_dropClamp_30 : decode cX5_dropClamp 30 = .ok (.aload_n 0, 1) := by decide +kernel
theorem dX5_dropClamp_31 : decode cX5_dropClamp 31 = .ok (.getfield 15, 3) := by decide +kernel
theorem dX5_dropClamp_34 : decode cX5_dropClamp 34 = .ok (.iload_n 2, 1) := by decide +kernel
theorem dX5_dropClamp_35 : decode cX5_dropClamp 35 = .ok (.iconst 1, 1) := by decide +kernel
theorem dX5_dropClamp_36 : decode cX5_dropClamp 36 = .ok (.iadd, 1) := by decide +kernel
theorem dX5_dropClamp_37 : decode cX5_dropClamp 37 = .ok (.iaload, 1) := by decide +kernel
theorem dX5_dropClamp_38 : decode cX5_dropClamp 38 = .ok (.iastore, 1) := by decide +kernel
theorem dX5_dropClamp_39 : decode cX5_dropClamp 39 = .ok (.aload_n 0, 1) := by decide +kernel
theorem dX5_dropClamp_40 : decode cX5_dropClamp 40 = .ok (.getfield 18, 3) := by decide +kernel
theorem dX5_dropClamp_43 : decode cX5_dropClamp 43 = .ok (.iload_n 2, 1) := by decide +kernel
theorem dX5_dropClamp_44 : decode cX5_dropClamp 44 = .ok (.aload_n 0, 1) := by decide +kernel
theorem dX5_dropClamp_45 : decode cX5_dropClamp 45 = .ok (.getfield 18, 3) := by decide +kernel
theorem dX5_dropClamp_48 : decode cX5_dropClamp 48 = .ok (.iload_n 2, 1) := by decide +kernel
theorem dX5_dropClamp_49 : decode cX5_dropClamp 49 = .ok (.iconst 1, 1) := by decide +kernel
theorem dX5_dropClamp_50 : decode cX5_dropClamp 50 = .ok (.iadd, 1) := by decide +kernel
theorem dX5_dropClamp_51 : decode cX5_dropClamp 51 = .ok (.iaload, 1) := by decide +kernel
theorem dX5_dropClamp_52 : decode cX5_dropClamp 52 = .ok (.iastore, 1) := by decide +kernel
theorem dX5_dropClamp_53 : decode cX5_dropClamp 53 = .ok (.iinc 2 1, 3) := by decide +kernel
theorem dX5_dropClamp_56 : decode cX5_dropClamp 56 = .ok (.goto (-41), 3) := by decide +kernel
theorem dX5_dropClamp_59 : decode cX5_dropClamp 59 = .ok (.aload_n 0, 1) := by decide +kernel
theorem dX5_dropClamp_60 : decode cX5_dropClamp 60 = .ok (.dup, 1) := by decide +kernel
theorem dX5_dropClamp_61 : decode cX5_dropClamp 61 = .ok (.getfield 21, 3) := by decide +kernel
theorem dX5_dropClamp_64 : decode cX5_dropClamp 64 = .ok (.iconst 1, 1) := by decide +kernel
theorem dX5_dropClamp_65 : decode cX5_dropClamp 65 = .ok (.isub, 1) := by decide +kernel
theorem dX5_dropClamp_66 : decode cX5_dropClamp 66 = .ok (.putfield 21, 3) := by decide +kernel
theorem dX5_dropClamp_69 : decode cX5_dropClamp 69 = .ok (.return_, 1) := by decide +kernel
