theorem dX0_init_0 : decode cX0_init 0 = .ok (.aload_n 0, 1) := by decide +kernel
theorem dX0_init_1 : decode cX0_init 1 = .ok (.invokespecial 1, 3) := by decide +kernel
theorem dX0_init_4 : decode cX0_init 4 = .ok (.aload_n 0, 1) := by decide +kernel
theorem dX0_init_5 : decode cX0_init 5 = .ok (.bipush 96, 2) := by decide +kernel
theorem dX0_init_7 : decode cX0_init 7 = .ok (.newarray .int, 2) := by decide +kernel
theorem dX0_init_9 : decode cX0_init 9 = .ok (.putfield 9, 3) := by decide +kernel
theorem dX0_init_12 : decode cX0_init 12 = .ok (.return_, 1) := by decide +kernel
set_option maxRecDepth 20000 in
theorem ggX0_keep_X0_forgetOldest : GoodIn wsX0_keep wsX0_forgetOldest := goodIn_r _ [7, 2, 1, 8, 9, 10, 11, 12, 13, 14] (by decide +kernel) (by decide +kernel)
set_option maxRecDepth 20000 in
theorem gX0_keep_X0_forgetOldest : GoodIn wsX0_keep (wsV RX0 17 RX0 yX0_forgetOldest wsX0_forgetOldest) := goodIn_app (goodIn_of _ (by decide +kernel)) ggX0_keep_X0_forgetOldest
set_option maxRecDepth 20000 in
theorem ggX0_keep_X5_put : GoodIn wsX0_keep wsX5_put := goodIn_r _ [12] (by decide +kernel) (by decide +kernel)
set_option maxRecDepth 20000 in
theorem gX0_keep_X5_put_n20 : GoodIn wsX0_keep (wsX5_put) := ggX0_keep_X5_put
theorem dX0_keep_0 : decode cX0_keep 0 = .ok (.aload_n 0, 1) := by decide +kernel
theorem dX0_keep_1 : decode cX0_keep 1 = .ok (.getfield 13, 3) := by decide +kernel
theorem dX0_keep_4 : decode cX0_keep 4 = .ok (.bipush 24, 2) := by decide +kernel
theorem dX0_keep_6 : decode cX0_keep 6 = .ok (.if_icmp .lt 7, 3) := by decide +kernel
theorem dX0_keep_9 : decode cX0_keep 9 = .ok (.aload_n 0, 1) := by decide +kernel
theorem dX0_keep_10 : decode cX0_keep 10 = .ok (.invokevirtual 17, 3) := by decide +kernel
theorem dX0_keep_13 : decode cX0_keep 13 = .ok (.aload_n 0, 1) := by decide +kernel
theorem dX0_keep_14 : decode cX0_keep 14 = .ok (.getfield 13, 3) := by decide +kernel
theorem dX0_keep_17 : decode cX0_keep 17 = .ok (.iconst 4, 1) := by decide +kernel
theorem dX0_keep_18 : decode cX0_keep 18 = .ok (.imul, 1) := by decide +kernel
theorem dX0_keep_19 : decode cX0_keep 19 = .ok (.istore 5, 2) := by decide +kernel
theorem dX0_keep_21 : decode cX0_keep 21 = .ok (.aload_n 0, 1) := by decide +kernel
theorem dX0_keep_22 : decode cX0_keep 22 = .ok (.getfield 9, 3) := by decide +kernel
theorem dX0_keep_25 : decode cX0_keep 25 = .ok (.iload 5, 2) := by decide +kernel
theorem dX0_keep_27 : decode cX0_keep 27 = .ok (.iload_n 1, 1) := by decide +kernel
theorem dX0_keep_28 : decode cX0_keep 28 = .ok (.invokestatic 20, 3) := by decide +kernel
theorem dX0_keep_31 : decode cX0_keep 31 = .ok (.aload_n 0, 1) := by decide +kernel
theorem dX0_keep_32 : decode cX0_keep 32 = .ok (.getfield 9, 3) := by decide +kernel
theorem dX0_keep_35 : decode cX0_keep 35 = .ok (.iload 5, 2) := by decide +kernel
theorem dX0_keep_37 : decode cX0_keep 37 = .ok (.iconst 1, 1) := by decide +kernel
theorem dX0_keep_38 : decode cX0_keep 38 = .ok (.iadd, 1) := by decide +kernel
theorem dX0_keep_39 : decode cX0_keep 39 = .ok (.iload_n 2, 1) := by decide +kernel
theorem dX0_keep_40 : decode cX0_keep 40 = .ok (.invokestatic 20, 3) := by decide +kernel
theorem dX0_keep_43 : decode cX0_keep 43 = .ok (.aload_n 0, 1) := by decide +kernel
theorem dX0_keep_44 : decode cX0_keep 44 = .ok (.getfield 9, 3) := by decide +kernel
theorem dX0_keep_47 : decode cX0_keep 47 = .ok (.iload 5, 2) := by decide +kernel
theorem dX0_keep_49 : decode cX0_keep 49 = .ok (.iconst 2, 1) := by decide +kernel
theorem dX0_keep_50 : decode cX0_keep 50 = .ok (.iadd, 1) := by decide +kernel
theorem dX0_keep_51 : decode cX0_keep 51 = .ok (.iload_n 3, 1) := by decide +kernel
theorem dX0_keep_52 : decode cX0_keep 52 = .ok (.invokestatic 20, 3) := by decide +kernel
theorem dX0_keep_55 : decode cX0_keep 55 = .ok (.aload_n 0, 1) := by decide +kernel
theorem dX0_keep_56 : decode cX0_keep 56 = .ok (.getfield 9, 3) := by decide +kernel
theorem dX0_keep_59 : decode cX0_keep 59 = .ok (.iload 5, 2) := by decide +kernel
theorem dX0_keep_61 : decode cX0_keep 61 = .ok (.iconst 3, 1) := by decide +kernel
theorem dX0_keep_62 : decode cX0_keep 62 = .ok (.iadd, 1) := by decide +kernel
theorem dX0_keep_63 : decode cX0_keep 63 = .ok (.iload 4, 2) := by decide +kernel
theorem dX0_keep_65 : decode cX0_keep 65 = .ok (.invokestatic 20, 3) := by decide +kernel
theorem dX0_keep_68 : decode cX0_keep 68 = .ok (.aload_n 0, 1) := by decide +kernel
theorem dX0_keep_69 : decode cX0_keep 69 = .ok (.dup, 1) := by decide +kernel
theorem dX0_keep_70 : decode cX0_keep 70 = .ok (.getfield 13, 3) := by decide +kernel
theorem dX0_keep_73 : decode cX0_keep 73 = .ok (.iconst 1, 1) := by decide +kernel
theorem dX0_keep_74 : decode cX0_keep 74 = .ok (.iadd, 1) := by decide +kernel
theorem dX0_keep_75 : decode cX0_keep 75 = .ok (.putfield 13, 3) := by decide +kernel
theorem dX0_keep_78 : decode cX0_keep 78 = .ok (.return_, 1) := by decide +kernel
set_option maxRecDepth 20000 in
theorem ggX0_latest_X5_at : GoodIn wsX0_latest wsX5_at := goodIn_r _ [5] (by decide +kernel) (by decide +kernel)
set_option maxRecDepth 20000 in
theorem gX0_latest_X5_at_n26 : GoodIn wsX0_latest (wsX5_at) := ggX0_latest_X5_at
theorem dX0_latest_0 : decode cX0_latest 0 = .ok (.aload_n 0, 1) := by decide +kernel
theorem dX0_latest_1 : decode cX0_latest 1 = .ok (.getfield 9, 3) := by decide +kernel
theorem dX0_latest_4 : decode cX0_latest 4 = .ok (.aload_n 0, 1) := by decide +kernel
theorem dX0_latest_5 : decode cX0_latest 5 = .ok (.getfield 13, 3) := by decide +kernel
theorem dX0_latest_8 : decode cX0_latest 8 = .ok (.iconst 1, 1) := by decide +kernel
theorem dX0_latest_9 : decode cX0_latest 9 = .ok (.isub, 1) := by decide +kernel
theorem dX0_latest_10 : decode cX0_latest 10 = .ok (.iconst 4, 1) := by decide +kernel
theorem dX0_latest_11 : decode cX0_latest 11 = .ok (.imul, 1) := by decide +kernel
theorem dX0_latest_12 : decode cX0_latest 12 = .ok (.iload_n 1, 1) := by decide +kernel
theorem dX0_latest_13 : decode cX0_latest 13 = .ok (.iadd, 1) := by decide +kernel
theorem dX0_latest_14 : decode cX0_latest 14 = .ok (.invokestatic 26, 3) := by decide +kernel
theorem dX0_latest_17 : decode cX0_latest 17 = .ok (.ireturn, 1) := by decide +kernel
set_option maxRecDepth 20000 in
theorem ggX0_forgetOldest_X5_at : GoodIn wsX0_forgetOldest wsX5_at := goodIn_r _ [5] (by decide +kernel) (by decide +kernel)
set_option maxRecDepth 20000 in
theorem gX0_forgetOldest_X5_at_n26 : GoodIn wsX0_forgetOldest (wsX5_at) := ggX0_forgetOldest_X5_at
set_option maxRecDepth 20000 in
theorem ggX0_forgetOldest_X5_put : GoodIn wsX0_forgetOldest wsX5_put := goodIn_r _ [7] (by decide +kernel) (by decide +kernel)
set_option maxRecDepth 20000 in
theorem gX0_forgetOldest_X5_put_n20 : GoodIn wsX0_forgetOldest (wsX5_put) := ggX0_forgetOldest_X5_put
theorem dX0_forgetOldest_0 : decode cX0_forgetOldest 0 = .ok (.iconst 4, 1) := by decide +kernel
theorem dX0_forgetOldest_1 : decode cX0_forgetOldest 1 = .ok (.istore_n 1, 1) := by decide +kernel
theorem dX0_forgetOldest_2 : decode cX0_forgetOldest 2 = .ok (.iload_n 1, 1) := by decide +kernel
theorem dX0_forgetOldest_3 : decode cX0_forgetOldest 3 = .ok (.aload_n 0, 1) := by decide +kernel
theorem dX0_forgetOldest_4 : decode cX0_forgetOldest 4 = .ok (.getfield 9, 3) := by decide +kernel
theorem dX0_forgetOldest_7 : decode cX0_forgetOldest 7 = .ok (.arraylength, 1) := by decide +kernel
theorem dX0_forgetOldest_8 : decode cX0_forgetOldest 8 = .ok (.if_icmp .ge 27, 3) := by decide +kernel
theorem dX0_forgetOldest_11 : decode cX0_forgetOldest 11 = .ok (.aload_n 0, 1) := by decide +kernel
theorem dX0_forgetOldest_12 : decode cX0_forgetOldest 12 = .ok (.getfield 9, 3) := by decide +kernel
theorem dX0_forgetOldest_15 : decode cX0_forgetOldest 15 = .ok (.iload_n 1, 1) := by decide +kernel
theorem dX0_forgetOldest_16 : decode cX0_forgetOldest 16 = .ok (.iconst 4, 1) := by decide +kernel
theorem dX0_forgetOldest_17 : decode cX0_forgetOldest 17 = .ok (.isub, 1) := by decide +kernel
theorem dX0_forgetOldest_18 : decode cX0_forgetOldest 18 = .ok (.aload_n 0, 1) := by decide +kernel
theorem dX0_forgetOldest_19 : decode cX0_forgetOldest 19 = .ok (.getfield 9, 3) := by decide +kernel
theorem dX0_forgetOldest_22 : decode cX0_forgetOldest 22 = .ok (.iload_n 1, 1) := by decide +kernel
theorem dX0_forgetOldest_23 : decode cX0_forgetOldest 23 = .ok (.invokestatic 26, 3) := by decide +kernel
theorem dX0_forgetOldest_26 : decode cX0_forgetOldest 26 = .ok (.invokestatic 20, 3) := by decide +kernel
theorem dX0_forgetOldest_29 : decode cX0_forgetOldest 29 = .ok (.iinc 1 1, 3) := by decide +kernel
theorem dX0_forgetOldest_32 : decode cX0_forgetOldest 32 = .ok (.goto (-30), 3) := by decide +kernel
theorem dX0_forgetOldest_35 : decode cX0_forgetOldest 35 = .ok (.aload_n 0, 1) := by decide +kernel
theorem dX0_forgetOldest_36 : decode cX0_forgetOldest 36 = .ok (.dup, 1) := by decide +kernel
theorem dX0_forgetOldest_37 : decode cX0_forgetOldest 37 = .ok (.getfield 13, 3) := by decide +kernel
theorem dX0_forgetOldest_40 : decode cX0_forgetOldest 40 = .ok (.iconst 1, 1) := by decide +kernel
theorem dX0_forgetOldest_41 : decode cX0_forgetOldest 41 = .ok (.isub, 1) := by decide +kernel
theorem dX0_forgetOldest_42 : decode cX0_forgetOldest 42 = .ok (.putfield 13, 3) := by decide +kernel
theorem dX0_forgetOldest_45 : decode cX0_forgetOldest 45 = .ok (.return_, 1) := by decide +kernel
theorem dX0_forgetLatest_0 : decode cX0_forgetLatest 0 = .ok (.aload_n 0, 1) := by decide +kernel
theorem dX0_forgetLatest_1 : decode cX0_forgetLatest 1 = .ok (.dup, 1) := by decide +kernel
theorem dX0_forgetLatest_2 : decode cX0_forgetLatest 2 = .ok (.getfield 13, 3) := by decide +kernel
theorem dX0_forgetLatest_5 : decode cX0_forgetLatest 5 = .ok (.iconst 1, 1) := by decide +kernel
theorem dX0_forgetLatest_6 : decode cX0_forgetLatest 6 = .ok (.isub, 1) := by decide +kernel
theorem dX0_forgetLatest_7 : decode cX0_forgetLatest 7 = .ok (.putfield 13, 3) := by decide +kernel
theorem dX0_forgetLatest_10 : decode cX0_forgetLatest 10 = .ok (.return_, 1) := by decide +kernel
theorem dX0_forgetAll_0 : decode cX0_forgetAll 0 = .ok (.aload_n 0, 1) := by decide +kernel
theorem dX0_forgetAll_1 : decode cX0_forgetAll 1 = .ok (.iconst 0, 1) := by decide +kernel
theorem dX0_forgetAll_2 : decode cX0_forgetAll 2 = .ok (.putfield 13, 3) := by decide +kernel
theorem dX0_forgetAll_5 : decode cX0_forgetAll 5 = .ok (.return_, 1) := by decide +kernel
theorem dX1_init_0 : decode cX1_init 0 = .ok (.aload_n 0, 1) := by decide +kernel
theorem dX1_init_1 : decode cX1_init 1 = .ok (.invokespecial 3, 3) := by decide +kernel
theorem dX1_init_4 : decode cX1_init 4 = .ok (.aload_n 0, 1) := by decide +kernel
theorem dX1_init_5 : decode cX1_init 5 = .ok (.aload_n 1, 1) := by decide +kernel
theorem dX1_init_6 : decode cX1_init 6 = .ok (.putfield 9, 3) := by decide +kernel
theorem dX1_init_9 : decode cX1_init 9 = .ok (.aload_n 0, 1) := by decide +kernel
theorem dX1_init_10 : decode cX1_init 10 = .ok (.bipush 16, 2) := by decide +kernel
theorem dX1_init_12 : decode cX1_init 12 = .ok (.newarray .int, 2) := by decide +kernel
theorem dX1_init_14 : decode cX1_init 14 = .ok (.putfield 15, 3) := by decide +kernel
theorem dX1_init_17 : decode cX1_init 17 = .ok (.return_, 1) := by decide +kernel
theorem dX1_begin_0 : decode cX1_begin 0 = .ok (.aload_n 0, 1) := by decide +kernel
theorem dX1_begin_1 : decode cX1_begin 1 = .ok (.iconst 0, 1) := by decide +kernel
theorem dX1_begin_2 : decode cX1_begin 2 = .ok (.putfield 19, 3) := by decide +kernel
theorem dX1_begin_5 : decode cX1_begin 5 = .ok (.return_, 1) := by decide +kernel
set_option maxRecDepth 20000 in
theorem ggX1_leave_X5_put : GoodIn wsX1_leave wsX5_put := goodIn_r _ [5] (by decide +kernel) (by decide +kernel)
set_option maxRecDepth 20000 in
theorem gX1_leave_X5_put_n23 : GoodIn wsX1_leave (wsX5_put) := ggX1_leave_X5_put
theorem dX1_leave_0 : decode cX1_leave 0 = .ok (.aload_n 0, 1) := by decide +kernel
theorem dX1_leave_1 : decode cX1_leave 1 = .ok (.getfield 19, 3) := by decide +kernel
theorem dX1_leave_4 : decode cX1_leave 4 = .ok (.bipush 16, 2) := by decide +kernel
theorem dX1_leave_6 : decode cX1_leave 6 = .ok (.if_icmp .ge 25, 3) := by decide +kernel
theorem dX1_leave_9 : decode cX1_leave 9 = .ok (.aload_n 0, 1) := by decide +kernel
theorem dX1_leave_10 : decode cX1_leave 10 = .ok (.getfield 15, 3) := by decide +kernel
theorem dX1_leave_13 : decode cX1_leave 13 = .ok (.aload_n 0, 1) := by decide +kernel
theorem dX1_leave_14 : decode cX1_leave 14 = .ok (.getfield 19, 3) := by decide +kernel
theorem dX1_leave_17 : decode cX1_leave 17 = .ok (.iload_n 1, 1) := by decide +kernel
theorem dX1_leave_18 : decode cX1_leave 18 = .ok (.invokestatic 23, 3) := by decide +kernel
theorem dX1_leave_21 : decode cX1_leave 21 = .ok (.aload_n 0, 1) := by decide +kernel
theorem dX1_leave_22 : decode cX1_leave 22 = .ok (.dup, 1) := by decide +kernel
theorem dX1_leave_23 : decode cX1_leave 23 = .ok (.getfield 19, 3) := by decide +kernel
theorem dX1_leave_26 : decode cX1_leave 26 = .ok (.iconst 1, 1) := by decide +kernel
theorem dX1_leave_27 : decode cX1_leave 27 = .ok (.iadd, 1) := by decide +kernel
theorem dX1_leave_28 : decode cX1_leave 28 = .ok (.putfield 19, 3) := by decide +kernel
theorem dX1_leave_31 : decode cX1_leave 31 = .ok (.return_, 1) := by decide +kernel
set_option maxRecDepth 20000 in
theorem ggX1_sizeOf_X4_kindOf : GoodIn wsX1_sizeOf wsX4_kindOf := goodIn_r _ [5, 6, 7, 8, 9, 71, 72, 73, 74, 75, 76, 77, 78] (by decide +kernel) (by decide +kernel)
set_option maxRecDepth 20000 in
theorem gX1_sizeOf_X4_kindOf_n27 : GoodIn wsX1_sizeOf (wsX4_kindOf) := ggX1_sizeOf_X4_kindOf
set_option maxRecDepth 20000 in
theorem ggX1_sizeOf_X5_isA : GoodIn wsX1_sizeOf wsX5_isA := goodIn_r _ [11, 12, 13, 8, 14] (by decide +kernel) (by decide +kernel)
set_option maxRecDepth 20000 in
theorem gX1_sizeOf_X5_isA_n33 : GoodIn wsX1_sizeOf (wsX5_isA) := ggX1_sizeOf_X5_isA
set_option maxRecDepth 20000 in
theorem ggX1_sizeOf_X1_sizeOfAll : GoodIn wsX1_sizeOf wsX1_sizeOfAll := goodIn_r _ [19, 1, 2, 3, 4, 5, 6, 7, 8, 9, 20, 21, 22, 18, 23, 24, 25, 26, 27, 28, 29, 30, 31, 32, 33, 34, 35, 36, 37, 38, 39, 40, 41, 42, 43, 44, 45, 46, 47, 48, 49, 50, 51, 52, 53, 54, 55, 56, 57, 58, 59, 60, 61, 62, 63, 68, 69, 70, 71, 72, 73, 74, 75, 76, 77, 78] (by decide +kernel) (by decide +kernel)
set_option maxRecDepth 20000 in
theorem gX1_sizeOf_X1_sizeOfAll : GoodIn wsX1_sizeOf (wsV RX1 37 RX1 yX1_sizeOfAll wsX1_sizeOfAll) := goodIn_app (goodIn_of _ (by decide +kernel)) ggX1_sizeOf_X1_sizeOfAll
set_option maxRecDepth 20000 in
theorem ggX1_sizeOf_X1_sizeOfAny : GoodIn wsX1_sizeOf wsX1_sizeOfAny := goodIn_r _ [67, 1, 2, 3, 4, 5, 6, 7, 8, 9, 20, 21, 22, 18, 23, 24, 25, 26, 27, 28, 29, 30, 31, 32, 33, 34, 35, 68, 69, 70, 71, 72, 73, 74, 75, 76, 77, 78] (by decide +kernel) (by decide +kernel)
set_option maxRecDepth 20000 in
theorem gX1_sizeOf_X1_sizeOfAny : GoodIn wsX1_sizeOf (wsV RX1 40 RX1 yX1_sizeOfAny wsX1_sizeOfAny) := goodIn_app (goodIn_of _ (by decide +kernel)) ggX1_sizeOf_X1_sizeOfAny
theorem dX1_sizeOf_0 : decode cX1_sizeOf 0 = .ok (.aload_n 0, 1) := by decide +kernel
theorem dX1_sizeOf_1 : decode cX1_sizeOf 1 = .ok (.getfield 9, 3) := by decide +kernel
theorem dX1_sizeOf_4 : decode cX1_sizeOf 4 = .ok (.iload_n 1, 1) := by decide +kernel
theorem dX1_sizeOf_5 : decode cX1_sizeOf 5 = .ok (.invokevirtual 27, 3) := by decide +kernel
theorem dX1_sizeOf_8 : decode cX1_sizeOf 8 = .ok (.iconst 1, 1) := by decide +kernel
theorem dX1_sizeOf_9 : decode cX1_sizeOf 9 = .ok (.invokestatic 33, 3) := by decide +kernel
theorem dX1_sizeOf_12 : decode cX1_sizeOf 12 = .ok (.ifCond .eq 11, 3) := by decide +kernel
theorem dX1_sizeOf_15 : decode cX1_sizeOf 15 = .ok (.aload_n 0, 1) := by decide +kernel
theorem dX1_sizeOf_16 : decode cX1_sizeOf 16 = .ok (.iload_n 1, 1) := by decide +kernel
theorem dX1_sizeOf_17 : decode cX1_sizeOf 17 = .ok (.invokevirtual 37, 3) := by decide +kernel
theorem dX1_sizeOf_20 : decode cX1_sizeOf 20 = .ok (.goto 8, 3) := by decide +kernel
theorem dX1_sizeOf_23 : decode cX1_sizeOf 23 = .ok (.aload_n 0, 1) := by decide +kernel
theorem dX1_sizeOf_24 : decode cX1_sizeOf 24 = .ok (.iload_n 1, 1) := by decide +kernel
theorem dX1_sizeOf_25 : decode cX1_sizeOf 25 = .ok (.invokevirtual 40, 3) := by decide +kernel
theorem dX1_sizeOf_28 : decode cX1_sizeOf 28 = .ok (.ireturn, 1) := by decide +kernel
set_option maxRecDepth 20000 in
theorem ggX1_markOf_X4_kindOf : GoodIn wsX1_markOf wsX4_kindOf := goodIn_r _ [5, 6, 7, 8, 9, 71, 72, 73, 74, 75, 76, 77, 78] (by decide +kernel) (by decide +kernel)
set_option maxRecDepth 20000 in
theorem gX1_markOf_X4_kindOf_n27 : GoodIn wsX1_markOf (wsX4_kindOf) := ggX1_markOf_X4_kindOf
set_option maxRecDepth 20000 in
theorem ggX1_markOf_X5_isA : GoodIn wsX1_markOf wsX5_isA := goodIn_r _ [11, 12, 13, 8, 14] (by decide +kernel) (by decide +kernel)
set_option maxRecDepth 20000 in
theorem gX1_markOf_X5_isA_n33 : GoodIn wsX1_markOf (wsX5_isA) := ggX1_markOf_X5_isA
set_option maxRecDepth 20000 in
theorem ggX1_markOf_X1_markOfAll : GoodIn wsX1_markOf wsX1_markOfAll := goodIn_r _ [19, 1, 2, 3, 4, 5, 6, 7, 8, 9, 20, 21, 22, 18, 23, 24, 25, 26, 27, 28, 29, 30, 31, 32, 33, 34, 35, 36, 37, 38, 39, 40, 41, 42, 43, 44, 45, 46, 47, 48, 49, 50, 51, 68, 69, 70, 71, 72, 73, 74, 75, 76, 77, 78] (by decide +kernel) (by decide +kernel)
set_option maxRecDepth 20000 in
theorem gX1_markOf_X1_markOfAll : GoodIn wsX1_markOf (wsV RX1 43 RX1 yX1_markOfAll wsX1_markOfAll) := goodIn_app (goodIn_of _ (by decide +kernel)) ggX1_markOf_X1_markOfAll
set_option maxRecDepth 20000 in
theorem ggX1_markOf_X1_markOfAny : GoodIn wsX1_markOf wsX1_markOfAny := goodIn_r _ [55, 20, 21, 22, 18, 23, 24, 25, 26, 8, 27, 28, 29, 30, 31, 56, 57, 58, 59, 1, 2, 3, 4, 5, 6, 7, 9, 60, 61, 62, 63, 64, 65, 66, 67, 68, 69, 70, 71, 72, 73, 74, 75, 76, 77, 78] (by decide +kernel) (by decide +kernel)
set_option maxRecDepth 20000 in
theorem gX1_markOf_X1_markOfAny : GoodIn wsX1_markOf (wsV RX1 46 RX1 yX1_markOfAny wsX1_markOfAny) := goodIn_app (goodIn_of _ (by decide +kernel)) ggX1_markOf_X1_markOfAny
theorem dX1_markOf_0 : decode cX1_markOf 0 = .ok (.aload_n 0, 1) := by decide +kernel
theorem dX1_markOf_1 : decode cX1_markOf 1 = .ok (.getfield 9, 3) := by decide +kernel
theorem dX1_markOf_4 : decode cX1_markOf 4 = .ok (.iload_n 1, 1) := by decide +kernel
theorem dX1_markOf_5 : decode cX1_markOf 5 = .ok (.invokevirtual 27, 3) := by decide +kernel
theorem dX1_markOf_8 : decode cX1_markOf 8 = .ok (.iconst 1, 1) := by decide +kernel
theorem dX1_markOf_9 : decode cX1_markOf 9 = .ok (.invokestatic 33, 3) := by decide +kernel
theorem dX1_markOf_12 : decode cX1_markOf 12 = .ok (.ifCond .eq 11, 3) := by decide +kernel
theorem dX1_markOf_15 : decode cX1_markOf 15 = .ok (.aload_n 0, 1) := by decide +kernel
theorem dX1_markOf_16 : decode cX1_markOf 16 = .ok (.iload_n 1, 1) := by decide +kernel
theorem dX1_markOf_17 : decode cX1_markOf 17 = .ok (.invokevirtual 43, 3) := by decide +kernel
theorem dX1_markOf_20 : decode cX1_markOf 20 = .ok (.goto 8, 3) := by decide +kernel
theorem dX1_markOf_23 : decode cX1_markOf 23 = .ok (.aload_n 0, 1) := by decide +kernel
theorem dX1_markOf_24 : decode cX1_markOf 24 = .ok (.iload_n 1, 1) := by decide +kernel
theorem dX1_markOf_25 : decode cX1_markOf 25 = .ok (.invokevirtual 46, 3) := by decide +kernel
theorem dX1_markOf_28 : decode cX1_markOf 28 = .ok (.ireturn, 1) := by decide +kernel
set_option maxRecDepth 20000 in
theorem ggX1_sizeOfAll_X4_kindOf : GoodIn wsX1_sizeOfAll wsX4_kindOf := goodIn_r _ [5, 6, 7, 8, 9, 58, 59, 60, 61, 62, 63, 64, 65] (by decide +kernel) (by decide +kernel)
set_option maxRecDepth 20000 in
theorem gX1_sizeOfAll_X4_kindOf_n27 : GoodIn wsX1_sizeOfAll (wsX4_kindOf) := ggX1_sizeOfAll_X4_kindOf
set_option maxRecDepth 20000 in
theorem ggX1_sizeOfAll_X1_leave : GoodIn wsX1_sizeOfAll wsX1_leave := goodIn_r _ [14, 15, 16, 17, 8, 18, 55, 56, 57] (by decide +kernel) (by decide +kernel)
set_option maxRecDepth 20000 in
theorem gX1_sizeOfAll_X1_leave : GoodIn wsX1_sizeOfAll (wsV RX1 49 RX1 yX1_leave wsX1_leave) := goodIn_app (goodIn_of _ (by decide +kernel)) ggX1_sizeOfAll_X1_leave
set_option maxRecDepth 20000 in
theorem ggX1_sizeOfAll_X1_sizeLent : GoodIn wsX1_sizeOfAll wsX1_sizeLent := goodIn_r _ [22, 1, 10, 11, 12, 13, 14, 15, 16, 17, 8, 18, 23, 3, 24, 25, 26, 7, 9, 55, 56, 57, 58, 59, 60, 61, 62, 63, 64, 65] (by decide +kernel) (by decide +kernel)
set_option maxRecDepth 20000 in
theorem gX1_sizeOfAll_X1_sizeLent : GoodIn wsX1_sizeOfAll (wsV RX1 53 RX1 yX1_sizeLent wsX1_sizeLent) := goodIn_app (goodIn_of _ (by decide +kernel)) ggX1_sizeOfAll_X1_sizeLent
set_option maxRecDepth 20000 in
theorem ggX1_sizeOfAll_X1_markOfAll : GoodIn wsX1_sizeOfAll wsX1_markOfAll := goodIn_r _ [30, 1, 2, 3, 4, 5, 6, 7, 8, 9, 10, 11, 12, 13, 14, 15, 16, 17, 18, 31, 32, 33, 34, 35, 36, 37, 38, 39, 40, 41, 42, 43, 44, 45, 46, 47, 48, 49, 50, 51, 52, 53, 54, 55, 56, 57, 58, 59, 60, 61, 62, 63, 64, 65] (by decide +kernel) (by decide +kernel)
set_option maxRecDepth 20000 in
theorem gX1_sizeOfAll_X1_markOfAll : GoodIn wsX1_sizeOfAll (wsV RX1 43 RX1 yX1_markOfAll wsX1_markOfAll) := goodIn_app (goodIn_of _ (by decide +kernel)) ggX1_sizeOfAll_X1_markOfAll
theorem dX1_sizeOfAll_0 : decode cX1_sizeOfAll 0 = .ok (.aload_n 0, 1) := by decide +kernel
theorem dX1_sizeOfAll_1 : decode cX1_sizeOfAll 1 = .ok (.getfield 9, 3) := by decide +kernel
theorem dX1_sizeOfAll_4 : decode cX1_sizeOfAll 4 = .ok (.iload_n 1, 1) := by decide +kernel
theorem dX1_sizeOfAll_5 : decode cX1_sizeOfAll 5 = .ok (.invokevirtual 27, 3) := by decide +kernel
theorem dX1_sizeOfAll_8 : decode cX1_sizeOfAll 8 = .ok (.iconst 2, 1) := by decide +kernel
theorem dX1_sizeOfAll_9 : decode cX1_sizeOfAll 9 = .ok (.if_icmp .ne 7, 3) := by decide +kernel
theorem dX1_sizeOfAll_12 : decode cX1_sizeOfAll 12 = .ok (.iconst 1, 1) := by decide +kernel
theorem dX1_sizeOfAll_13 : decode cX1_sizeOfAll 13 = .ok (.goto 4, 3) := by decide +kernel
theorem dX1_sizeOfAll_16 : decode cX1_sizeOfAll 16 = .ok (.iconst 0, 1) := by decide +kernel
theorem dX1_sizeOfAll_17 : decode cX1_sizeOfAll 17 = .ok (.istore_n 2, 1) := by decide +kernel
theorem dX1_sizeOfAll_18 : decode cX1_sizeOfAll 18 = .ok (.iload_n 2, 1) := by decide +kernel
theorem dX1_sizeOfAll_19 : decode cX1_sizeOfAll 19 = .ok (.ifCond .eq 9, 3) := by decide +kernel
theorem dX1_sizeOfAll_22 : decode cX1_sizeOfAll 22 = .ok (.aload_n 0, 1) := by decide +kernel
theorem dX1_sizeOfAll_23 : decode cX1_sizeOfAll 23 = .ok (.bipush 12, 2) := by decide +kernel
theorem dX1_sizeOfAll_25 : decode cX1_sizeOfAll 25 = .ok (.invokevirtual 49, 3) := by decide +kernel
theorem dX1_sizeOfAll_28 : decode cX1_sizeOfAll 28 = .ok (.aload_n 0, 1) := by decide +kernel
theorem dX1_sizeOfAll_29 : decode cX1_sizeOfAll 29 = .ok (.bipush 11, 2) := by decide +kernel
theorem dX1_sizeOfAll_31 : decode cX1_sizeOfAll 31 = .ok (.invokevirtual 49, 3) := by decide +kernel
theorem dX1_sizeOfAll_34 : decode cX1_sizeOfAll 34 = .ok (.aload_n 0, 1) := by decide +kernel
theorem dX1_sizeOfAll_35 : decode cX1_sizeOfAll 35 = .ok (.iload_n 1, 1) := by decide +kernel
theorem dX1_sizeOfAll_36 : decode cX1_sizeOfAll 36 = .ok (.invokevirtual 53, 3) := by decide +kernel
theorem dX1_sizeOfAll_39 : decode cX1_sizeOfAll 39 = .ok (.aload_n 0, 1) := by decide +kernel
theorem dX1_sizeOfAll_40 : decode cX1_sizeOfAll 40 = .ok (.iload_n 1, 1) := by decide +kernel
theorem dX1_sizeOfAll_41 : decode cX1_sizeOfAll 41 = .ok (.invokevirtual 43, 3) := by decide +kernel
theorem dX1_sizeOfAll_44 : decode cX1_sizeOfAll 44 = .ok (.iadd, 1) := by decide +kernel
theorem dX1_sizeOfAll_45 : decode cX1_sizeOfAll 45 = .ok (.istore_n 3, 1) := by decide +kernel
theorem dX1_sizeOfAll_46 : decode cX1_sizeOfAll 46 = .ok (.iload_n 2, 1) := by decide +kernel
theorem dX1_sizeOfAll_47 : decode cX1_sizeOfAll 47 = .ok (.ifCond .eq 8, 3) := by decide +kernel
theorem dX1_sizeOfAll_50 : decode cX1_sizeOfAll 50 = .ok (.iload_n 3, 1) := by decide +kernel
theorem dX1_sizeOfAll_51 : decode cX1_sizeOfAll 51 = .ok (.ineg, 1) := by decide +kernel
theorem dX1_sizeOfAll_52 : decode cX1_sizeOfAll 52 = .ok (.goto 4, 3) := by decide +kernel
theorem dX1_sizeOfAll_55 : decode cX1_sizeOfAll 55 = .ok (.iload_n 3, 1) := by decide +kernel
theorem dX1_sizeOfAll_56 : decode cX1_sizeOfAll 56 = .ok (.ireturn, 1) := by decide +kernel
set_option maxRecDepth 20000 in
theorem ggX1_sizeOfAny_X4_kindOf : GoodIn wsX1_sizeOfAny wsX4_kindOf := goodIn_r _ [5, 6, 7, 8, 9, 30, 31, 32, 33, 34, 35, 36, 37] (by decide +kernel) (by decide +kernel)
set_option maxRecDepth 20000 in
theorem gX1_sizeOfAny_X4_kindOf_n27 : GoodIn wsX1_sizeOfAny (wsX4_kindOf) := ggX1_sizeOfAny_X4_kindOf
set_option maxRecDepth 20000 in
theorem ggX1_sizeOfAny_X1_leave : GoodIn wsX1_sizeOfAny wsX1_leave := goodIn_r _ [14, 15, 16, 17, 8, 18, 27, 28, 29] (by decide +kernel) (by decide +kernel)
set_option maxRecDepth 20000 in
theorem gX1_sizeOfAny_X1_leave : GoodIn wsX1_sizeOfAny (wsV RX1 49 RX1 yX1_leave wsX1_leave) := goodIn_app (goodIn_of _ (by decide +kernel)) ggX1_sizeOfAny_X1_leave
set_option maxRecDepth 20000 in
theorem ggX1_sizeOfAny_X1_sizeLent : GoodIn wsX1_sizeOfAny wsX1_sizeLent := goodIn_r _ [22, 1, 10, 11, 12, 13, 14, 15, 16, 17, 8, 18, 23, 3, 24, 25, 26, 7, 9, 27, 28, 29, 30, 31, 32, 33, 34, 35, 36, 37] (by decide +kernel) (by decide +kernel)
set_option maxRecDepth 20000 in
theorem gX1_sizeOfAny_X1_sizeLent : GoodIn wsX1_sizeOfAny (wsV RX1 53 RX1 yX1_sizeLent wsX1_sizeLent) := goodIn_app (goodIn_of _ (by decide +kernel)) ggX1_sizeOfAny_X1_sizeLent
theorem dX1_sizeOfAny_0 : decode cX1_sizeOfAny 0 = .ok (.aload_n 0, 1) := by decide +kernel
theorem dX1_sizeOfAny_1 : decode cX1_sizeOfAny 1 = .ok (.getfield 9, 3) := by decide +kernel
theorem dX1_sizeOfAny_4 : decode cX1_sizeOfAny 4 = .ok (.iload_n 1, 1) := by decide +kernel
theorem dX1_sizeOfAny_5 : decode cX1_sizeOfAny 5 = .ok (.invokevirtual 27, 3) := by decide +kernel
theorem dX1_sizeOfAny_8 : decode cX1_sizeOfAny 8 = .ok (.iconst 5, 1) := by decide +kernel
theorem dX1_sizeOfAny_9 : decode cX1_sizeOfAny 9 = .ok (.if_icmp .ne 7, 3) := by decide +kernel
theorem dX1_sizeOfAny_12 : decode cX1_sizeOfAny 12 = .ok (.iconst 1, 1) := by decide +kernel
theorem dX1_sizeOfAny_13 : decode cX1_sizeOfAny 13 = .ok (.goto 4, 3) := by decide +kernel
theorem dX1_sizeOfAny_16 : decode cX1_sizeOfAny 16 = .ok (.iconst 0, 1) := by decide +kernel
theorem dX1_sizeOfAny_17 : decode cX1_sizeOfAny 17 = .ok (.istore_n 2, 1) := by decide +kernel
theorem dX1_sizeOfAny_18 : decode cX1_sizeOfAny 18 = .ok (.iload_n 2, 1) := by decide +kernel
theorem dX1_sizeOfAny_19 : decode cX1_sizeOfAny 19 = .ok (.ifCond .eq 9, 3) := by decide +kernel
theorem dX1_sizeOfAny_22 : decode cX1_sizeOfAny 22 = .ok (.aload_n 0, 1) := by decide +kernel
theorem dX1_sizeOfAny_23 : decode cX1_sizeOfAny 23 = .ok (.bipush 14, 2) := by decide +kernel
theorem dX1_sizeOfAny_25 : decode cX1_sizeOfAny 25 = .ok (.invokevirtual 49, 3) := by decide +kernel
theorem dX1_sizeOfAny_28 : decode cX1_sizeOfAny 28 = .ok (.aload_n 0, 1) := by decide +kernel
theorem dX1_sizeOfAny_29 : decode cX1_sizeOfAny 29 = .ok (.bipush 13, 2) := by decide +kernel
theorem dX1_sizeOfAny_31 : decode cX1_sizeOfAny 31 = .ok (.invokevirtual 49, 3) := by decide +kernel
theorem dX1_sizeOfAny_34 : decode cX1_sizeOfAny 34 = .ok (.aload_n 0, 1) := by decide +kernel
theorem dX1_sizeOfAny_35 : decode cX1_sizeOfAny 35 = .ok (.iload_n 1, 1) := by decide +kernel
theorem dX1_sizeOfAny_36 : decode cX1_sizeOfAny 36 = .ok (.invokevirtual 53, 3) := by decide +kernel
theorem dX1_sizeOfAny_39 : decode cX1_sizeOfAny 39 = .ok (.bipush 100, 2) := by decide +kernel
theorem dX1_sizeOfAny_41 : decode cX1_sizeOfAny 41 = .ok (.isub, 1) := by decide +kernel
theorem dX1_sizeOfAny_42 : decode cX1_sizeOfAny 42 = .ok (.istore_n 3, 1) := by decide +kernel
theorem dX1_sizeOfAny_43 : decode cX1_sizeOfAny 43 = .ok (.iload_n 2, 1) := by decide +kernel
theorem dX1_sizeOfAny_44 : decode cX1_sizeOfAny 44 = .ok (.ifCond .eq 9, 3) := by decide +kernel
theorem dX1_sizeOfAny_47 : decode cX1_sizeOfAny 47 = .ok (.iconst 2, 1) := by decide +kernel
theorem dX1_sizeOfAny_48 : decode cX1_sizeOfAny 48 = .ok (.iload_n 3, 1) := by decide +kernel
theorem dX1_sizeOfAny_49 : decode cX1_sizeOfAny 49 = .ok (.imul, 1) := by decide +kernel
theorem dX1_sizeOfAny_50 : decode cX1_sizeOfAny 50 = .ok (.goto 4, 3) := by decide +kernel
theorem dX1_sizeOfAny_53 : decode cX1_sizeOfAny 53 = .ok (.iload_n 3, 1) := by decide +kernel
theorem dX1_sizeOfAny_54 : decode cX1_sizeOfAny 54 = .ok (.ireturn, 1) := by decide +kernel
set_option maxRecDepth 20000 in
theorem ggX1_sizeLent_X1_leave : GoodIn wsX1_sizeLent wsX1_leave := goodIn_r _ [6, 7, 8, 9, 10, 11, 19, 20, 21] (by decide +kernel) (by decide +kernel)
set_option maxRecDepth 20000 in
theorem gX1_sizeLent_X1_leave : GoodIn wsX1_sizeLent (wsV RX1 49 RX1 yX1_leave wsX1_leave) := goodIn_app (goodIn_of _ (by decide +kernel)) ggX1_sizeLent_X1_leave
set_option maxRecDepth 20000 in
theorem ggX1_sizeLent_X4_worthOf : GoodIn wsX1_sizeLent wsX4_worthOf := goodIn_r _ [15, 16, 17, 10, 18, 22, 23, 24, 25, 26, 27, 28, 29] (by decide +kernel) (by decide +kernel)
set_option maxRecDepth 20000 in
theorem gX1_sizeLent_X4_worthOf_n56 : GoodIn wsX1_sizeLent (wsX4_worthOf) := ggX1_sizeLent_X4_worthOf
theorem dX1_sizeLent_0 : decode cX1_sizeLent 0 = .ok (.aload_n 0, 1) := by decide +kernel
theorem dX1_sizeLent_1 : decode cX1_sizeLent 1 = .ok (.bipush 10, 2) := by decide +kernel
theorem dX1_sizeLent_3 : decode cX1_sizeLent 3 = .ok (.invokevirtual 49, 3) := by decide +kernel
theorem dX1_sizeLent_6 : decode cX1_sizeLent 6 = .ok (.aload_n 0, 1) := by decide +kernel
theorem dX1_sizeLent_7 : decode cX1_sizeLent 7 = .ok (.getfield 9, 3) := by decide +kernel
theorem dX1_sizeLent_10 : decode cX1_sizeLent 10 = .ok (.iload_n 1, 1) := by decide +kernel
theorem dX1_sizeLent_11 : decode cX1_sizeLent 11 = .ok (.invokevirtual 56, 3) := by decide +kernel
theorem dX1_sizeLent_14 : decode cX1_sizeLent 14 = .ok (.ireturn, 1) := by decide +kernel
set_option maxRecDepth 20000 in
theorem ggX1_markOfAll_X4_kindOf : GoodIn wsX1_markOfAll wsX4_kindOf := goodIn_r _ [5, 6, 7, 8, 9, 46, 47, 48, 49, 50, 51, 52, 53] (by decide +kernel) (by decide +kernel)
set_option maxRecDepth 20000 in
theorem gX1_markOfAll_X4_kindOf_n27 : GoodIn wsX1_markOfAll (wsX4_kindOf) := ggX1_markOfAll_X4_kindOf
set_option maxRecDepth 20000 in
theorem ggX1_markOfAll_X1_leave : GoodIn wsX1_markOfAll wsX1_leave := goodIn_r _ [14, 15, 16, 17, 8, 18, 43, 44, 45] (by decide +kernel) (by decide +kernel)
set_option maxRecDepth 20000 in
theorem gX1_markOfAll_X1_leave : GoodIn wsX1_markOfAll (wsV RX1 49 RX1 yX1_leave wsX1_leave) := goodIn_app (goodIn_of _ (by decide +kernel)) ggX1_markOfAll_X1_leave
set_option maxRecDepth 20000 in
theorem ggX1_markOfAll_X1_markLent : GoodIn wsX1_markOfAll wsX1_markLent := goodIn_r _ [22, 10, 11, 12, 13, 14, 15, 16, 17, 8, 18, 43, 44, 45] (by decide +kernel) (by decide +kernel)
set_option maxRecDepth 20000 in
theorem gX1_markOfAll_X1_markLent : GoodIn wsX1_markOfAll (wsV RX1 59 RX1 yX1_markLent wsX1_markLent) := goodIn_app (goodIn_of _ (by decide +kernel)) ggX1_markOfAll_X1_markLent
set_option maxRecDepth 20000 in
theorem ggX1_markOfAll_X4_setOf : GoodIn wsX1_markOfAll wsX4_setOf := goodIn_r _ [25, 26, 7, 8, 9, 46, 47, 48, 49, 50, 51, 52, 53] (by decide +kernel) (by decide +kernel)
set_option maxRecDepth 20000 in
theorem gX1_markOfAll_X4_setOf_n62 : GoodIn wsX1_markOfAll (wsX4_setOf) := ggX1_markOfAll_X4_setOf
set_option maxRecDepth 20000 in
theorem ggX1_markOfAll_X4_there : GoodIn wsX1_markOfAll wsX4_there := goodIn_r _ [29, 30, 31, 32, 33, 3, 34, 35, 46, 47, 48, 49, 50, 51, 52, 53] (by decide +kernel) (by decide +kernel)
set_option maxRecDepth 20000 in
theorem gX1_markOfAll_X4_there_n65 : GoodIn wsX1_markOfAll (wsX4_there) := ggX1_markOfAll_X4_there
set_option maxRecDepth 20000 in
theorem ggX1_markOfAll_J6_bitCount_0f7a4 : GoodIn wsX1_markOfAll wsJ6_bitCount_0f7a4 := goodIn_r _ [39, 40, 41, 42] (by decide +kernel) (by decide +kernel)
set_option maxRecDepth 20000 in
theorem gX1_markOfAll_J6_bitCount_0f7a4 : GoodIn wsX1_markOfAll (va_wsS RX1 69 yJ6_bitCount_0f7a4 wsJ6_bitCount_0f7a4) := goodIn_app (goodIn_of _ (by decide +kernel)) ggX1_markOfAll_J6_bitCount_0f7a4
theorem dX1_markOfAll_0 : decode cX1_markOfAll 0 = .ok (.aload_n 0, 1) := by decide +kernel
theorem dX1_markOfAll_1 : decode cX1_markOfAll 1 = .ok (.getfield 9, 3) := by decide +kernel
theorem dX1_markOfAll_4 : decode cX1_markOfAll 4 = .ok (.iload_n 1, 1) := by decide +kernel
theorem dX1_markOfAll_5 : decode cX1_markOfAll 5 = .ok (.invokevirtual 27, 3) := by decide +kernel
theorem dX1_markOfAll_8 : decode cX1_markOfAll 8 = .ok (.istore_n 2, 1) := by decide +kernel
theorem dX1_markOfAll_9 : decode cX1_markOfAll 9 = .ok (.iload_n 2, 1) := by decide +kernel
theorem dX1_markOfAll_10 : decode cX1_markOfAll 10 = .ok (.iconst 3, 1) := by decide +kernel
theorem dX1_markOfAll_11 : decode cX1_markOfAll 11 = .ok (.if_icmp .ne 12, 3) := by decide +kernel
theorem dX1_markOfAll_14 : decode cX1_markOfAll 14 = .ok (.aload_n 0, 1) := by decide +kernel
theorem dX1_markOfAll_15 : decode cX1_markOfAll 15 = .ok (.bipush 22, 2) := by decide +kernel
theorem dX1_markOfAll_17 : decode cX1_markOfAll 17 = .ok (.invokevirtual 49, 3) := by decide +kernel
theorem dX1_markOfAll_20 : decode cX1_markOfAll 20 = .ok (.goto 14, 3) := by decide +kernel
theorem dX1_markOfAll_23 : decode cX1_markOfAll 23 = .ok (.iload_n 2, 1) := by decide +kernel
theorem dX1_markOfAll_24 : decode cX1_markOfAll 24 = .ok (.iconst 2, 1) := by decide +kernel
theorem dX1_markOfAll_25 : decode cX1_markOfAll 25 = .ok (.if_icmp .ne 9, 3) := by decide +kernel
theorem dX1_markOfAll_28 : decode cX1_markOfAll 28 = .ok (.aload_n 0, 1) := by decide +kernel
theorem dX1_markOfAll_29 : decode cX1_markOfAll 29 = .ok (.bipush 24, 2) := by decide +kernel
theorem dX1_markOfAll_31 : decode cX1_markOfAll 31 = .ok (.invokevirtual 49, 3) := by decide +kernel
theorem dX1_markOfAll_34 : decode cX1_markOfAll 34 = .ok (.aload_n 0, 1) := by decide +kernel
theorem dX1_markOfAll_35 : decode cX1_markOfAll 35 = .ok (.bipush 21, 2) := by decide +kernel
theorem dX1_markOfAll_37 : decode cX1_markOfAll 37 = .ok (.invokevirtual 49, 3) := by decide +kernel
theorem dX1_markOfAll_40 : decode cX1_markOfAll 40 = .ok (.aload_n 0, 1) := by decide +kernel
theorem dX1_markOfAll_41 : decode cX1_markOfAll 41 = .ok (.iload_n 1, 1) := by decide +kernel
theorem dX1_markOfAll_42 : decode cX1_markOfAll 42 = .ok (.invokevirtual 59, 3) := by decide +kernel
theorem dX1_markOfAll_45 : decode cX1_markOfAll 45 = .ok (.aload_n 0, 1) := by decide +kernel
theorem dX1_markOfAll_46 : decode cX1_markOfAll 46 = .ok (.getfield 9, 3) := by decide +kernel
theorem dX1_markOfAll_49 : decode cX1_markOfAll 49 = .ok (.iload_n 1, 1) := by decide +kernel
theorem dX1_markOfAll_50 : decode cX1_markOfAll 50 = .ok (.invokevirtual 62, 3) := by decide +kernel
theorem dX1_markOfAll_53 : decode cX1_markOfAll 53 = .ok (.aload_n 0, 1) := by decide +kernel
theorem dX1_markOfAll_54 : decode cX1_markOfAll 54 = .ok (.getfield 9, 3) := by decide +kernel
theorem dX1_markOfAll_57 : decode cX1_markOfAll 57 = .ok (.invokevirtual 65, 3) := by decide +kernel
theorem dX1_markOfAll_60 : decode cX1_markOfAll 60 = .ok (.iand, 1) := by decide +kernel
theorem dX1_markOfAll_61 : decode cX1_markOfAll 61 = .ok (.invokestatic 69, 3) := by decide +kernel
theorem dX1_markOfAll_64 : decode cX1_markOfAll 64 = .ok (.iadd, 1) := by decide +kernel
theorem dX1_markOfAll_65 : decode cX1_markOfAll 65 = .ok (.istore_n 3, 1) := by decide +kernel
theorem dX1_markOfAll_66 : decode cX1_markOfAll 66 = .ok (.iload_n 2, 1) := by decide +kernel
theorem dX1_markOfAll_67 : decode cX1_markOfAll 67 = .ok (.iconst 3, 1) := by decide +kernel
theorem dX1_markOfAll_68 : decode cX1_markOfAll 68 = .ok (.if_icmp .ne 9, 3) := by decide +kernel
theorem dX1_markOfAll_71 : decode cX1_markOfAll 71 = .ok (.iload_n 3, 1) := by decide +kernel
theorem dX1_markOfAll_72 : decode cX1_markOfAll 72 = .ok (.sipush 1000, 3) := by decide +kernel
theorem dX1_markOfAll_75 : decode cX1_markOfAll 75 = .ok (.isub, 1) := by decide +kernel
theorem dX1_markOfAll_76 : decode cX1_markOfAll 76 = .ok (.ireturn, 1) := by decide +kernel
theorem dX1_markOfAll_77 : decode cX1_markOfAll 77 = .ok (.iload_n 2, 1) := by decide +kernel
theorem dX1_markOfAll_78 : decode cX1_markOfAll 78 = .ok (.iconst 2, 1) := by decide +kernel
theorem dX1_markOfAll_79 : decode cX1_markOfAll 79 = .ok (.if_icmp .ne 9, 3) := by decide +kernel
theorem dX1_markOfAll_82 : decode cX1_markOfAll 82 = .ok (.iconst 2, 1) := by decide +kernel
theorem dX1_markOfAll_83 : decode cX1_markOfAll 83 = .ok (.iload_n 3, 1) := by decide +kernel
theorem dX1_markOfAll_84 : decode cX1_markOfAll 84 = .ok (.imul, 1) := by decide +kernel
theorem dX1_markOfAll_85 : decode cX1_markOfAll 85 = .ok (.goto 4, 3) := by decide +kernel
theorem dX1_markOfAll_88 : decode cX1_markOfAll 88 = .ok (.iload_n 3, 1) := by decide +kernel
theorem dX1_markOfAll_89 : decode cX1_markOfAll 89 = .ok (.ireturn, 1) := by decide +kernel
set_option maxRecDepth 20000 in
theorem ggX1_markOfAny_X1_leave : GoodIn wsX1_markOfAny wsX1_leave := goodIn_r _ [5, 6, 7, 8, 9, 10, 35, 36, 37] (by decide +kernel) (by decide +kernel)
set_option maxRecDepth 20000 in
theorem gX1_markOfAny_X1_leave : GoodIn wsX1_markOfAny (wsV RX1 49 RX1 yX1_leave wsX1_leave) := goodIn_app (goodIn_of _ (by decide +kernel)) ggX1_markOfAny_X1_leave
set_option maxRecDepth 20000 in
theorem ggX1_markOfAny_X1_markLent : GoodIn wsX1_markOfAny wsX1_markLent := goodIn_r _ [14, 1, 2, 3, 4, 5, 6, 7, 8, 9, 10, 35, 36, 37] (by decide +kernel) (by decide +kernel)
set_option maxRecDepth 20000 in
theorem gX1_markOfAny_X1_markLent : GoodIn wsX1_markOfAny (wsV RX1 59 RX1 yX1_markLent wsX1_markLent) := goodIn_app (goodIn_of _ (by decide +kernel)) ggX1_markOfAny_X1_markLent
set_option maxRecDepth 20000 in
theorem ggX1_markOfAny_X1_sizeOfAny : GoodIn wsX1_markOfAny wsX1_sizeOfAny := goodIn_r _ [18, 19, 20, 21, 22, 23, 24, 25, 9, 26, 1, 2, 3, 4, 5, 6, 7, 8, 10, 27, 28, 29, 30, 31, 32, 33, 34, 35, 36, 37, 38, 39, 40, 41, 42, 43, 44, 45] (by decide +kernel) (by decide +kernel)
set_option maxRecDepth 20000 in
theorem gX1_markOfAny_X1_sizeOfAny : GoodIn wsX1_markOfAny (wsV RX1 40 RX1 yX1_sizeOfAny wsX1_sizeOfAny) := goodIn_app (goodIn_of _ (by decide +kernel)) ggX1_markOfAny_X1_sizeOfAny
theorem dX1_markOfAny_0 : decode cX1_markOfAny 0 = .ok (.aload_n 0, 1) := by decide +kernel
theorem dX1_markOfAny_1 : decode cX1_markOfAny 1 = .ok (.bipush 23, 2) := by decide +kernel
theorem dX1_markOfAny_3 : decode cX1_markOfAny 3 = .ok (.invokevirtual 49, 3) := by decide +kernel
theorem dX1_markOfAny_6 : decode cX1_markOfAny 6 = .ok (.aload_n 0, 1) := by decide +kernel
theorem dX1_markOfAny_7 : decode cX1_markOfAny 7 = .ok (.iload_n 1, 1) := by decide +kernel
theorem dX1_markOfAny_8 : decode cX1_markOfAny 8 = .ok (.invokevirtual 59, 3) := by decide +kernel
theorem dX1_markOfAny_11 : decode cX1_markOfAny 11 = .ok (.aload_n 0, 1) := by decide +kernel
theorem dX1_markOfAny_12 : decode cX1_markOfAny 12 = .ok (.iload_n 1, 1) := by decide +kernel
theorem dX1_markOfAny_13 : decode cX1_markOfAny 13 = .ok (.invokevirtual 40, 3) := by decide +kernel
theorem dX1_markOfAny_16 : decode cX1_markOfAny 16 = .ok (.isub, 1) := by decide +kernel
theorem dX1_markOfAny_17 : decode cX1_markOfAny 17 = .ok (.ireturn, 1) := by decide +kernel
set_option maxRecDepth 20000 in
theorem ggX1_markLent_X1_leave : GoodIn wsX1_markLent wsX1_leave := goodIn_r _ [5, 6, 7, 8, 9, 10, 11, 12, 13] (by decide +kernel) (by decide +kernel)
set_option maxRecDepth 20000 in
theorem gX1_markLent_X1_leave : GoodIn wsX1_markLent (wsV RX1 49 RX1 yX1_leave wsX1_leave) := goodIn_app (goodIn_of _ (by decide +kernel)) ggX1_markLent_X1_leave
theorem dX1_markLent_0 : decode cX1_markLent 0 = .ok (.aload_n 0, 1) := by decide +kernel
theorem dX1_markLent_1 : decode cX1_markLent 1 = .ok (.bipush 20, 2) := by decide +kernel
theorem dX1_markLent_3 : decode cX1_markLent 3 = .ok (.invokevirtual 49, 3) := by decide +kernel
theorem dX1_markLent_6 : decode cX1_markLent 6 = .ok (.iload_n 1, 1) := by decide +kernel
theorem dX1_markLent_7 : decode cX1_markLent 7 = .ok (.ireturn, 1) := by decide +kernel
theorem dX2_init_0 : decode cX2_init 0 = .ok (.aload_n 0, 1) := by decide +kernel
theorem dX2_init_1 : decode cX2_init 1 = .ok (.invokespecial 3, 3) := by decide +kernel
theorem dX2_init_4 : decode cX2_init 4 = .ok (.aload_n 0, 1) := by decide +kernel
theorem dX2_init_5 : decode cX2_init 5 = .ok (.bipush 120, 2) := by decide +kernel
theorem dX2_init_7 : decode cX2_init 7 = .ok (.newarray .int, 2) := by decide +kernel
theorem dX2_init_9 : decode cX2_init 9 = .ok (.putfield 9, 3) := by decide +kernel
theorem dX2_init_12 : decode cX2_init 12 = .ok (.return_, 1) := by decide +kernel
set_option maxRecDepth 20000 in
theorem ggX2_append_X5_put : GoodIn wsX2_append wsX5_put := goodIn_r _ [5] (by decide +kernel) (by decide +kernel)
set_option maxRecDepth 20000 in
theorem gX2_append_X5_put_n19 : GoodIn wsX2_append (wsX5_put) := ggX2_append_X5_put
theorem dX2_append_0 : decode cX2_append 0 = .ok (.aload_n 0, 1) := by decide +kernel
theorem dX2_append_1 : decode cX2_append 1 = .ok (.getfield 15, 3) := by decide +kernel
theorem dX2_append_4 : decode cX2_append 4 = .ok (.bipush 120, 2) := by decide +kernel
theorem dX2_append_6 : decode cX2_append 6 = .ok (.if_icmp .ge 25, 3) := by decide +kernel
theorem dX2_append_9 : decode cX2_append 9 = .ok (.aload_n 0, 1) := by decide +kernel
theorem dX2_append_10 : decode cX2_append 10 = .ok (.getfield 9, 3) := by decide +kernel
theorem dX2_append_13 : decode cX2_append 13 = .ok (.aload_n 0, 1) := by decide +kernel
theorem dX2_append_14 : decode cX2_append 14 = .ok (.getfield 15, 3) := by decide +kernel
theorem dX2_append_17 : decode cX2_append 17 = .ok (.iload_n 1, 1) := by decide +kernel
theorem dX2_append_18 : decode cX2_append 18 = .ok (.invokestatic 19, 3) := by decide +kernel
theorem dX2_append_21 : decode cX2_append 21 = .ok (.aload_n 0, 1) := by decide +kernel
theorem dX2_append_22 : decode cX2_append 22 = .ok (.dup, 1) := by decide +kernel
theorem dX2_append_23 : decode cX2_append 23 = .ok (.getfield 15, 3) := by decide +kernel
theorem dX2_append_26 : decode cX2_append 26 = .ok (.iconst 1, 1) := by decide +kernel
theorem dX2_append_27 : decode cX2_append 27 = .ok (.iadd, 1) := by decide +kernel
theorem dX2_append_28 : decode cX2_append 28 = .ok (.putfield 15, 3) := by decide +kernel
theorem dX2_append_31 : decode cX2_append 31 = .ok (.return_, 1) := by decide +kernel
set_option maxRecDepth 20000 in
theorem ggX2_readInto_X2_lawFault : GoodIn wsX2_readInto wsX2_lawFault := goodIn_r _ [7, 2, 8, 9, 10, 11, 6, 12, 1, 13, 14, 15, 16, 17, 18, 19, 20, 21, 22, 23, 24, 25, 26, 27, 28, 29, 30, 31, 32, 33, 34, 35, 36, 37, 38, 39, 40, 41, 42, 43, 44, 45, 64, 65, 66, 67, 68, 69, 70, 71, 72, 73, 74, 75, 76, 77] (by decide +kernel) (by decide +kernel)
set_option maxRecDepth 20000 in
theorem gX2_readInto_X2_lawFault : GoodIn wsX2_readInto (wsV RX2 26 RX2 yX2_lawFault wsX2_lawFault) := goodIn_app (goodIn_of _ (by decide +kernel)) ggX2_readInto_X2_lawFault
set_option maxRecDepth 20000 in
theorem ggX2_readInto_X2_step : GoodIn wsX2_readInto wsX2_step := goodIn_r _ [12, 1, 13, 8, 14, 2, 15, 16, 17, 18, 19, 20, 6, 21, 22, 23, 24, 25, 26, 27, 28, 64, 65, 66, 67, 68, 69] (by decide +kernel) (by decide +kernel)
set_option maxRecDepth 20000 in
theorem gX2_readInto_X2_step : GoodIn wsX2_readInto (wsV RX2 30 RX2 yX2_step wsX2_step) := goodIn_app (goodIn_of _ (by decide +kernel)) ggX2_readInto_X2_step
set_option maxRecDepth 20000 in
theorem ggX2_readInto_X2_tieFault : GoodIn wsX2_readInto wsX2_tieFault := goodIn_r _ [49, 2, 8, 50, 51, 6, 52, 53, 34, 54, 55, 37, 29, 30, 31, 32, 9, 10, 11, 12, 1, 13, 14, 15, 16, 17, 18, 19, 20, 21, 22, 23, 24, 25, 26, 27, 28, 42, 43, 44, 45, 56, 57, 58, 38, 59, 60, 61, 62, 63, 64, 65, 66, 67, 68, 69, 70, 71, 72, 73, 74, 75, 76, 77] (by decide +kernel) (by decide +kernel)
set_option maxRecDepth 20000 in
theorem gX2_readInto_X2_tieFault : GoodIn wsX2_readInto (wsV RX2 36 RX2 yX2_tieFault wsX2_tieFault) := goodIn_app (goodIn_of _ (by decide +kernel)) ggX2_readInto_X2_tieFault
theorem dX2_readInto_0 : decode cX2_readInto 0 = .ok (.aload_n 0, 1) := by decide +kernel
theorem dX2_readInto_1 : decode cX2_readInto 1 = .ok (.iconst 0, 1) := by decide +kernel
theorem dX2_readInto_2 : decode cX2_readInto 2 = .ok (.putfield 23, 3) := by decide +kernel
theorem dX2_readInto_5 : decode cX2_readInto 5 = .ok (.aload_n 0, 1) := by decide +kernel
theorem dX2_readInto_6 : decode cX2_readInto 6 = .ok (.aload_n 1, 1) := by decide +kernel
theorem dX2_readInto_7 : decode cX2_readInto 7 = .ok (.invokevirtual 26, 3) := by decide +kernel
theorem dX2_readInto_10 : decode cX2_readInto 10 = .ok (.istore_n 2, 1) := by decide +kernel
theorem dX2_readInto_11 : decode cX2_readInto 11 = .ok (.iconst 0, 1) := by decide +kernel
theorem dX2_readInto_12 : decode cX2_readInto 12 = .ok (.istore_n 3, 1) := by decide +kernel
theorem dX2_readInto_13 : decode cX2_readInto 13 = .ok (.iload_n 3, 1) := by decide +kernel
theorem dX2_readInto_14 : decode cX2_readInto 14 = .ok (.bipush 8, 2) := by decide +kernel
theorem dX2_readInto_16 : decode cX2_readInto 16 = .ok (.if_icmp .gt 33, 3) := by decide +kernel
theorem dX2_readInto_19 : decode cX2_readInto 19 = .ok (.iload_n 2, 1) := by decide +kernel
theorem dX2_readInto_20 : decode cX2_readInto 20 = .ok (.ifCond .ne 29, 3) := by decide +kernel
theorem dX2_readInto_23 : decode cX2_readInto 23 = .ok (.aload_n 0, 1) := by decide +kernel
theorem dX2_readInto_24 : decode cX2_readInto 24 = .ok (.invokevirtual 30, 3) := by decide +kernel
theorem dX2_readInto_27 : decode cX2_readInto 27 = .ok (.aload_n 0, 1) := by decide +kernel
theorem dX2_readInto_28 : decode cX2_readInto 28 = .ok (.getfield 33, 3) := by decide +kernel
theorem dX2_readInto_31 : decode cX2_readInto 31 = .ok (.iconst 3, 1) := by decide +kernel
theorem dX2_readInto_32 : decode cX2_readInto 32 = .ok (.if_icmp .ne 5, 3) := by decide +kernel
theorem dX2_readInto_35 : decode cX2_readInto 35 = .ok (.iconst 0, 1) := by decide +kernel
theorem dX2_readInto_36 : decode cX2_readInto 36 = .ok (.ireturn, 1) := by decide +kernel
theorem dX2_readInto_37 : decode cX2_readInto 37 = .ok (.aload_n 0, 1) := by decide +kernel
theorem dX2_readInto_38 : decode cX2_readInto 38 = .ok (.aload_n 1, 1) := by decide +kernel
theorem dX2_readInto_39 : decode cX2_readInto 39 = .ok (.invokevirtual 36, 3) := by decide +kernel
theorem dX2_readInto_42 : decode cX2_readInto 42 = .ok (.istore_n 2, 1) := by decide +kernel
theorem dX2_readInto_43 : decode cX2_readInto 43 = .ok (.iinc 3 1, 3) := by decide +kernel
theorem dX2_readInto_46 : decode cX2_readInto 46 = .ok (.goto (-33), 3) := by decide +kernel
theorem dX2_readInto_49 : decode cX2_readInto 49 = .ok (.iload_n 2, 1) := by decide +kernel
theorem dX2_readInto_50 : decode cX2_readInto 50 = .ok (.ireturn, 1) := by decide +kernel
set_option maxRecDepth 20000 in
theorem ggX2_lawFault_X2_step : GoodIn wsX2_lawFault wsX2_step := goodIn_r _ [7, 8, 9, 2, 10, 1, 11, 12, 13, 14, 15, 16, 6, 17, 18, 19, 20, 21, 22, 23, 24, 42, 43, 44, 45, 46, 47] (by decide +kernel) (by decide +kernel)
set_option maxRecDepth 20000 in
theorem gX2_lawFault_X2_step : GoodIn wsX2_lawFault (wsV RX2 30 RX2 yX2_step wsX2_step) := goodIn_app (goodIn_of _ (by decide +kernel)) ggX2_lawFault_X2_step
set_option maxRecDepth 20000 in
theorem ggX2_lawFault_X2_numberFault : GoodIn wsX2_lawFault wsX2_numberFault := goodIn_r _ [28, 1, 2, 3, 4, 5, 6, 7, 8, 9, 10, 11, 12, 13, 14, 15, 16, 17, 18, 19, 20, 21, 22, 23, 24, 42, 43, 44, 45, 46, 47] (by decide +kernel) (by decide +kernel)
set_option maxRecDepth 20000 in
theorem gX2_lawFault_X2_numberFault : GoodIn wsX2_lawFault (wsV RX2 42 RX2 yX2_numberFault wsX2_numberFault) := goodIn_app (goodIn_of _ (by decide +kernel)) ggX2_lawFault_X2_numberFault
set_option maxRecDepth 20000 in
theorem ggX2_lawFault_X4_begin : GoodIn wsX2_lawFault wsX4_begin := goodIn_r _ [32, 33, 34, 35, 36, 37, 48, 49, 50, 51, 52, 53, 54, 55] (by decide +kernel) (by decide +kernel)
set_option maxRecDepth 20000 in
theorem gX2_lawFault_X4_begin_n46 : GoodIn wsX2_lawFault (wsX4_begin) := ggX2_lawFault_X4_begin
set_option maxRecDepth 20000 in
theorem ggX2_lawFault_X2_signFault : GoodIn wsX2_lawFault wsX2_signFault := goodIn_r _ [41, 1, 2, 3, 4, 5, 6, 7, 8, 9, 10, 11, 12, 13, 14, 15, 16, 17, 18, 19, 20, 21, 22, 23, 24, 42, 43, 44, 45, 46, 47] (by decide +kernel) (by decide +kernel)
set_option maxRecDepth 20000 in
theorem gX2_lawFault_X2_signFault : GoodIn wsX2_lawFault (wsV RX2 52 RX2 yX2_signFault wsX2_signFault) := goodIn_app (goodIn_of _ (by decide +kernel)) ggX2_lawFault_X2_signFault
theorem dX2_lawFault_0 : decode cX2_lawFault 0 = .ok (.aload_n 0, 1) := by decide +kernel
theorem dX2_lawFault_1 : decode cX2_lawFault 1 = .ok (.invokevirtual 30, 3) := by decide +kernel
theorem dX2_lawFault_4 : decode cX2_lawFault 4 = .ok (.aload_n 0, 1) := by decide +kernel
theorem dX2_lawFault_5 : decode cX2_lawFault 5 = .ok (.getfield 33, 3) := by decide +kernel
theorem dX2_lawFault_8 : decode cX2_lawFault 8 = .ok (.ifCond .ne 12, 3) := by decide +kernel
theorem dX2_lawFault_11 : decode cX2_lawFault 11 = .ok (.aload_n 0, 1) := by decide +kernel
theorem dX2_lawFault_12 : decode cX2_lawFault 12 = .ok (.getfield 39, 3) := by decide +kernel
theorem dX2_lawFault_15 : decode cX2_lawFault 15 = .ok (.bipush 116, 2) := by decide +kernel
theorem dX2_lawFault_17 : decode cX2_lawFault 17 = .ok (.if_icmp .eq 5, 3) := by decide +kernel
theorem dX2_lawFault_20 : decode cX2_lawFault 20 = .ok (.iconst 1, 1) := by decide +kernel
theorem dX2_lawFault_21 : decode cX2_lawFault 21 = .ok (.ireturn, 1) := by decide +kernel
theorem dX2_lawFault_22 : decode cX2_lawFault 22 = .ok (.aload_n 0, 1) := by decide +kernel
theorem dX2_lawFault_23 : decode cX2_lawFault 23 = .ok (.iconst 2, 1) := by decide +kernel
theorem dX2_lawFault_24 : decode cX2_lawFault 24 = .ok (.bipush 6, 2) := by decide +kernel
theorem dX2_lawFault_26 : decode cX2_lawFault 26 = .ok (.invokevirtual 42, 3) := by decide +kernel
theorem dX2_lawFault_29 : decode cX2_lawFault 29 = .ok (.istore_n 2, 1) := by decide +kernel
theorem dX2_lawFault_30 : decode cX2_lawFault 30 = .ok (.iload_n 2, 1) := by decide +kernel
theorem dX2_lawFault_31 : decode cX2_lawFault 31 = .ok (.ifCond .eq 5, 3) := by decide +kernel
theorem dX2_lawFault_34 : decode cX2_lawFault 34 = .ok (.iload_n 2, 1) := by decide +kernel
theorem dX2_lawFault_35 : decode cX2_lawFault 35 = .ok (.ireturn, 1) := by decide +kernel
theorem dX2_lawFault_36 : decode cX2_lawFault 36 = .ok (.aload_n 1, 1) := by decide +kernel
theorem dX2_lawFault_37 : decode cX2_lawFault 37 = .ok (.aload_n 0, 1) := by decide +kernel
theorem dX2_lawFault_38 : decode cX2_lawFault 38 = .ok (.getfield 39, 3) := by decide +kernel
theorem dX2_lawFault_41 : decode cX2_lawFault 41 = .ok (.invokevirtual 46, 3) := by decide +kernel
theorem dX2_lawFault_44 : decode cX2_lawFault 44 = .ok (.aload_n 0, 1) := by decide +kernel
theorem dX2_lawFault_45 : decode cX2_lawFault 45 = .ok (.bipush 59, 2) := by decide +kernel
theorem dX2_lawFault_47 : decode cX2_lawFault 47 = .ok (.invokevirtual 52, 3) := by decide +kernel
theorem dX2_lawFault_50 : decode cX2_lawFault 50 = .ok (.ireturn, 1) := by decide +kernel
set_option maxRecDepth 20000 in
theorem ggX2_tieFault_X2_kindToldBy : GoodIn wsX2_tieFault wsX2_kindToldBy := goodIn_r _ [6] (by decide +kernel) (by decide +kernel)
set_option maxRecDepth 20000 in
theorem gX2_tieFault_X2_kindToldBy : GoodIn wsX2_tieFault (va_wsS RX2 56 yX2_kindToldBy wsX2_kindToldBy) := goodIn_app (goodIn_of _ (by decide +kernel)) ggX2_tieFault_X2_kindToldBy
set_option maxRecDepth 20000 in
theorem ggX2_tieFault_X4_everybody : GoodIn wsX2_tieFault wsX4_everybody := goodIn_r _ [10, 11, 56, 57, 58, 59, 60, 61, 62, 63] (by decide +kernel) (by decide +kernel)
set_option maxRecDepth 20000 in
theorem gX2_tieFault_X4_everybody_n62 : GoodIn wsX2_tieFault (wsX4_everybody) := ggX2_tieFault_X4_everybody
set_option maxRecDepth 20000 in
theorem ggX2_tieFault_X2_numberFault : GoodIn wsX2_tieFault wsX2_numberFault := goodIn_r _ [15, 1, 2, 16, 17, 18, 5, 19, 20, 21, 22, 23, 24, 25, 26, 27, 28, 29, 30, 31, 32, 33, 34, 35, 36, 50, 51, 52, 53, 54, 55] (by decide +kernel) (by decide +kernel)
set_option maxRecDepth 20000 in
theorem gX2_tieFault_X2_numberFault : GoodIn wsX2_tieFault (wsV RX2 42 RX2 yX2_numberFault wsX2_numberFault) := goodIn_app (goodIn_of _ (by decide +kernel)) ggX2_tieFault_X2_numberFault
set_option maxRecDepth 20000 in
theorem ggX2_tieFault_X2_signFault : GoodIn wsX2_tieFault wsX2_signFault := goodIn_r _ [40, 1, 2, 16, 17, 18, 5, 19, 20, 21, 22, 23, 24, 25, 26, 27, 28, 29, 30, 31, 32, 33, 34, 35, 36, 50, 51, 52, 53, 54, 55] (by decide +kernel) (by decide +kernel)
set_option maxRecDepth 20000 in
theorem gX2_tieFault_X2_signFault : GoodIn wsX2_tieFault (wsV RX2 52 RX2 yX2_signFault wsX2_signFault) := goodIn_app (goodIn_of _ (by decide +kernel)) ggX2_tieFault_X2_signFault
set_option maxRecDepth 20000 in
theorem ggX2_tieFault_X4_addTie : GoodIn wsX2_tieFault wsX4_addTie := goodIn_r _ [43, 44, 45, 46, 47, 48, 25, 49, 56, 57, 58, 59, 60, 61, 62, 63] (by decide +kernel) (by decide +kernel)
set_option maxRecDepth 20000 in
theorem gX2_tieFault_X4_addTie_n66 : GoodIn wsX2_tieFault (wsX4_addTie) := ggX2_tieFault_X4_addTie
theorem dX2_tieFault_0 : decode cX2_tieFault 0 = .ok (.aload_n 0, 1) := by decide +kernel
theorem dX2_tieFault_1 : decode cX2_tieFault 1 = .ok (.getfield 33, 3) := by decide +kernel
theorem dX2_tieFault_4 : decode cX2_tieFault 4 = .ok (.ifCond .ne 13, 3) := by decide +kernel
theorem dX2_tieFault_7 : decode cX2_tieFault 7 = .ok (.aload_n 0, 1) := by decide +kernel
theorem dX2_tieFault_8 : decode cX2_tieFault 8 = .ok (.getfield 39, 3) := by decide +kernel
theorem dX2_tieFault_11 : decode cX2_tieFault 11 = .ok (.invokestatic 56, 3) := by decide +kernel
theorem dX2_tieFault_14 : decode cX2_tieFault 14 = .ok (.goto 4, 3) := by decide +kernel
theorem dX2_tieFault_17 : decode cX2_tieFault 17 = .ok (.iconst 0, 1) := by decide +kernel
theorem dX2_tieFault_18 : decode cX2_tieFault 18 = .ok (.istore_n 2, 1) := by decide +kernel
theorem dX2_tieFault_19 : decode cX2_tieFault 19 = .ok (.iload_n 2, 1) := by decide +kernel
theorem dX2_tieFault_20 : decode cX2_tieFault 20 = .ok (.ifCond .ne 5, 3) := by decide +kernel
theorem dX2_tieFault_23 : decode cX2_tieFault 23 = .ok (.iconst 1, 1) := by decide +kernel
theorem dX2_tieFault_24 : decode cX2_tieFault 24 = .ok (.ireturn, 1) := by decide +kernel
theorem dX2_tieFault_25 : decode cX2_tieFault 25 = .ok (.aload_n 1, 1) := by decide +kernel
theorem dX2_tieFault_26 : decode cX2_tieFault 26 = .ok (.getfield 59, 3) := by decide +kernel
theorem dX2_tieFault_29 : decode cX2_tieFault 29 = .ok (.bipush 8, 2) := by decide +kernel
theorem dX2_tieFault_31 : decode cX2_tieFault 31 = .ok (.if_icmp .lt 5, 3) := by decide +kernel
theorem dX2_tieFault_34 : decode cX2_tieFault 34 = .ok (.iconst 3, 1) := by decide +kernel
theorem dX2_tieFault_35 : decode cX2_tieFault 35 = .ok (.ireturn, 1) := by decide +kernel
theorem dX2_tieFault_36 : decode cX2_tieFault 36 = .ok (.aload_n 0, 1) := by decide +kernel
theorem dX2_tieFault_37 : decode cX2_tieFault 37 = .ok (.iconst 1, 1) := by decide +kernel
theorem dX2_tieFault_38 : decode cX2_tieFault 38 = .ok (.aload_n 1, 1) := by decide +kernel
theorem dX2_tieFault_39 : decode cX2_tieFault 39 = .ok (.invokevirtual 62, 3) := by decide +kernel
theorem dX2_tieFault_42 : decode cX2_tieFault 42 = .ok (.invokevirtual 42, 3) := by decide +kernel
theorem dX2_tieFault_45 : decode cX2_tieFault 45 = .ok (.istore_n 3, 1) := by decide +kernel
theorem dX2_tieFault_46 : decode cX2_tieFault 46 = .ok (.aload_n 0, 1) := by decide +kernel
theorem dX2_tieFault_47 : decode cX2_tieFault 47 = .ok (.getfield 39, 3) := by decide +kernel
theorem dX2_tieFault_50 : decode cX2_tieFault 50 = .ok (.istore 4, 2) := by decide +kernel
theorem dX2_tieFault_52 : decode cX2_tieFault 52 = .ok (.iload_n 3, 1) := by decide +kernel
theorem dX2_tieFault_53 : decode cX2_tieFault 53 = .ok (.ifCond .ne 10, 3) := by decide +kernel
theorem dX2_tieFault_56 : decode cX2_tieFault 56 = .ok (.aload_n 0, 1) := by decide +kernel
theorem dX2_tieFault_57 : decode cX2_tieFault 57 = .ok (.bipush 44, 2) := by decide +kernel
theorem dX2_tieFault_59 : decode cX2_tieFault 59 = .ok (.invokevirtual 52, 3) := by decide +kernel
theorem dX2_tieFault_62 : decode cX2_tieFault 62 = .ok (.istore_n 3, 1) := by decide +kernel
theorem dX2_tieFault_63 : decode cX2_tieFault 63 = .ok (.iload_n 3, 1) := by decide +kernel
theorem dX2_tieFault_64 : decode cX2_tieFault 64 = .ok (.ifCond .ne 11, 3) := by decide +kernel
theorem dX2_tieFault_67 : decode cX2_tieFault 67 = .ok (.aload_n 0, 1) := by decide +kernel
theorem dX2_tieFault_68 : decode cX2_tieFault 68 = .ok (.iconst 0, 1) := by decide +kernel
theorem dX2_tieFault_69 : decode cX2_tieFault 69 = .ok (.bipush 40, 2) := by decide +kernel
theorem dX2_tieFault_71 : decode cX2_tieFault 71 = .ok (.invokevirtual 42, 3) := by decide +kernel
theorem dX2_tieFault_74 : decode cX2_tieFault 74 = .ok (.istore_n 3, 1) := by decide +kernel
theorem dX2_tieFault_75 : decode cX2_tieFault 75 = .ok (.aload_n 0, 1) := by decide +kernel
theorem dX2_tieFault_76 : decode cX2_tieFault 76 = .ok (.getfield 39, 3) := by decide +kernel
theorem dX2_tieFault_79 : decode cX2_tieFault 79 = .ok (.istore 5, 2) := by decide +kernel
theorem dX2_tieFault_81 : decode cX2_tieFault 81 = .ok (.iload_n 3, 1) := by decide +kernel
theorem dX2_tieFault_82 : decode cX2_tieFault 82 = .ok (.ifCond .ne 10, 3) := by decide +kernel
theorem dX2_tieFault_85 : decode cX2_tieFault 85 = .ok (.aload_n 0, 1) := by decide +kernel
theorem dX2_tieFault_86 : decode cX2_tieFault 86 = .ok (.bipush 59, 2) := by decide +kernel
theorem dX2_tieFault_88 : decode cX2_tieFault 88 = .ok (.invokevirtual 52, 3) := by decide +kernel
theorem dX2_tieFault_91 : decode cX2_tieFault 91 = .ok (.istore_n 3, 1) := by decide +kernel
theorem dX2_tieFault_92 : decode cX2_tieFault 92 = .ok (.iload_n 3, 1) := by decide +kernel
theorem dX2_tieFault_93 : decode cX2_tieFault 93 = .ok (.ifCond .ne 12, 3) := by decide +kernel
theorem dX2_tieFault_96 : decode cX2_tieFault 96 = .ok (.aload_n 1, 1) := by decide +kernel
theorem dX2_tieFault_97 : decode cX2_tieFault 97 = .ok (.iload_n 2, 1) := by decide +kernel
theorem dX2_tieFault_98 : decode cX2_tieFault 98 = .ok (.iload 4, 2) := by decide +kernel
theorem dX2_tieFault_100 : decode cX2_tieFault 100 = .ok (.iload 5, 2) := by decide +kernel
theorem dX2_tieFault_102 : decode cX2_tieFault 102 = .ok (.invokevirtual 66, 3) := by decide +kernel
theorem dX2_tieFault_105 : decode cX2_tieFault 105 = .ok (.iload_n 3, 1) := by decide +kernel
theorem dX2_tieFault_106 : decode cX2_tieFault 106 = .ok (.ireturn, 1) := by decide +kernel
theorem dX2_kindToldBy_0 : decode cX2_kindToldBy 0 = .ok (.iload_n 0, 1) := by decide +kernel
theorem dX2_kindToldBy_1 : decode cX2_kindToldBy 1 = .ok (.lookupswitch 61 #[(97, 51), (109, 55), (110, 59), (113, 53), (121, 57)], 51) := by decide +kernel
theorem dX2_kindToldBy_52 : decode cX2_kindToldBy 52 = .ok (.iconst 1, 1) := by decide +kernel
theorem dX2_kindToldBy_53 : decode cX2_kindToldBy 53 = .ok (.ireturn, 1) := by decide +kernel
theorem dX2_kindToldBy_54 : decode cX2_kindToldBy 54 = .ok (.iconst 2, 1) := by decide +kernel
theorem dX2_kindToldBy_55 : decode cX2_kindToldBy 55 = .ok (.ireturn, 1) := by decide +kernel
theorem dX2_kindToldBy_56 : decode cX2_kindToldBy 56 = .ok (.iconst 3, 1) := by decide +kernel
theorem dX2_kindToldBy_57 : decode cX2_kindToldBy 57 = .ok (.ireturn, 1) := by decide +kernel
theorem dX2_kindToldBy_58 : decode cX2_kindToldBy 58 = .ok (.iconst 4, 1) := by decide +kernel
theorem dX2_kindToldBy_59 : decode cX2_kindToldBy 59 = .ok (.ireturn, 1) := by decide +kernel
theorem dX2_kindToldBy_60 : decode cX2_kindToldBy 60 = .ok (.iconst 5, 1) := by decide +kernel
theorem dX2_kindToldBy_61 : decode cX2_kindToldBy 61 = .ok (.ireturn, 1) := by decide +kernel
theorem dX2_kindToldBy_62 : decode cX2_kindToldBy 62 = .ok (.iconst 0, 1) := by decide +kernel
theorem dX2_kindToldBy_63 : decode cX2_kindToldBy 63 = .ok (.ireturn, 1) := by decide +kernel
set_option maxRecDepth 20000 in
theorem ggX2_numberFault_X2_step : GoodIn wsX2_numberFault wsX2_step := goodIn_r _ [7, 8, 9, 2, 10, 1, 11, 12, 13, 14, 15, 16, 6, 17, 18, 19, 20, 21, 22, 23, 24, 25, 26, 27, 28, 29, 30] (by decide +kernel) (by decide +kernel)
set_option maxRecDepth 20000 in
theorem gX2_numberFault_X2_step : GoodIn wsX2_numberFault (wsV RX2 30 RX2 yX2_step wsX2_step) := goodIn_app (goodIn_of _ (by decide +kernel)) ggX2_numberFault_X2_step
theorem dX2_numberFault_0 : decode cX2_numberFault 0 = .ok (.aload_n 0, 1) := by decide +kernel
theorem dX2_numberFault_1 : decode cX2_numberFault 1 = .ok (.invokevirtual 30, 3) := by decide +kernel
theorem dX2_numberFault_4 : decode cX2_numberFault 4 = .ok (.aload_n 0, 1) := by decide +kernel
theorem dX2_numberFault_5 : decode cX2_numberFault 5 = .ok (.getfield 33, 3) := by decide +kernel
theorem dX2_numberFault_8 : decode cX2_numberFault 8 = .ok (.iconst 1, 1) := by decide +kernel
theorem dX2_numberFault_9 : decode cX2_numberFault 9 = .ok (.if_icmp .eq 5, 3) := by decide +kernel
theorem dX2_numberFault_12 : decode cX2_numberFault 12 = .ok (.iconst 1, 1) := by decide +kernel
theorem dX2_numberFault_13 : decode cX2_numberFault 13 = .ok (.ireturn, 1) := by decide +kernel
theorem dX2_numberFault_14 : decode cX2_numberFault 14 = .ok (.aload_n 0, 1) := by decide +kernel
theorem dX2_numberFault_15 : decode cX2_numberFault 15 = .ok (.getfield 39, 3) := by decide +kernel
theorem dX2_numberFault_18 : decode cX2_numberFault 18 = .ok (.iload_n 1, 1) := by decide +kernel
theorem dX2_numberFault_19 : decode cX2_numberFault 19 = .ok (.if_icmp .lt 11, 3) := by decide +kernel
theorem dX2_numberFault_22 : decode cX2_numberFault 22 = .ok (.aload_n 0, 1) := by decide +kernel
theorem dX2_numberFault_23 : decode cX2_numberFault 23 = .ok (.getfield 39, 3) := by decide +kernel
theorem dX2_numberFault_26 : decode cX2_numberFault 26 = .ok (.iload_n 2, 1) := by decide +kernel
theorem dX2_numberFault_27 : decode cX2_numberFault 27 = .ok (.if_icmp .le 7, 3) := by decide +kernel
theorem dX2_numberFault_30 : decode cX2_numberFault 30 = .ok (.iconst 2, 1) := by decide +kernel
theorem dX2_numberFault_31 : decode cX2_numberFault 31 = .ok (.goto 4, 3) := by decide +kernel
theorem dX2_numberFault_34 : decode cX2_numberFault 34 = .ok (.iconst 0, 1) := by decide +kernel
theorem dX2_numberFault_35 : decode cX2_numberFault 35 = .ok (.ireturn, 1) := by decide +kernel
set_option maxRecDepth 20000 in
theorem ggX2_signFault_X2_step : GoodIn wsX2_signFault wsX2_step := goodIn_r _ [7, 8, 9, 2, 10, 1, 11, 12, 13, 14, 15, 16, 6, 17, 18, 19, 20, 21, 22, 23, 24, 25, 26, 27, 28, 29, 30] (by decide +kernel) (by decide +kernel)
set_option maxRecDepth 20000 in
theorem gX2_signFault_X2_step : GoodIn wsX2_signFault (wsV RX2 30 RX2 yX2_step wsX2_step) := goodIn_app (goodIn_of _ (by decide +kernel)) ggX2_signFault_X2_step
theorem dX2_signFault_0 : decode cX2_signFault 0 = .ok (.aload_n 0, 1) := by decide +kernel
theorem dX2_signFault_1 : decode cX2_signFault 1 = .ok (.invokevirtual 30, 3) := by decide +kernel
theorem dX2_signFault_4 : decode cX2_signFault 4 = .ok (.aload_n 0, 1) := by decide +kernel
theorem dX2_signFault_5 : decode cX2_signFault 5 = .ok (.getfield 33, 3) := by decide +kernel
theorem dX2_signFault_8 : decode cX2_signFault 8 = .ok (.iconst 2, 1) := by decide +kernel
theorem dX2_signFault_9 : decode cX2_signFault 9 = .ok (.if_icmp .ne 15, 3) := by decide +kernel
theorem dX2_signFault_12 : decode cX2_signFault 12 = .ok (.aload_n 0, 1) := by decide +kernel
theorem dX2_signFault_13 : decode cX2_signFault 13 = .ok (.getfield 39, 3) := by decide +kernel
theorem dX2_signFault_16 : decode cX2_signFault 16 = .ok (.iload_n 1, 1) := by decide +kernel
theorem dX2_signFault_17 : decode cX2_signFault 17 = .ok (.if_icmp .ne 7, 3) := by decide +kernel
theorem dX2_signFault_20 : decode cX2_signFault 20 = .ok (.iconst 0, 1) := by decide +kernel
theorem dX2_signFault_21 : decode cX2_signFault 21 = .ok (.goto 4, 3) := by decide +kernel
theorem dX2_signFault_24 : decode cX2_signFault 24 = .ok (.iconst 1, 1) := by decide +kernel
theorem dX2_signFault_25 : decode cX2_signFault 25 = .ok (.ireturn, 1) := by decide +kernel
set_option maxRecDepth 20000 in
theorem ggX2_step_X5_at : GoodIn wsX2_step wsX5_at := goodIn_r _ [9] (by decide +kernel) (by decide +kernel)
set_option maxRecDepth 20000 in
theorem gX2_step_X5_at_n73 : GoodIn wsX2_step (wsX5_at) := ggX2_step_X5_at
set_option maxRecDepth 20000 in
theorem ggX2_step_X2_isFigure : GoodIn wsX2_step wsX2_isFigure := goodIn_r _ [13] (by decide +kernel) (by decide +kernel)
set_option maxRecDepth 20000 in
theorem gX2_step_X2_isFigure : GoodIn wsX2_step (va_wsS RX2 77 yX2_isFigure wsX2_isFigure) := goodIn_app (goodIn_of _ (by decide +kernel)) ggX2_step_X2_isFigure
set_option maxRecDepth 20000 in
theorem ggX2_step_X2_readFigures : GoodIn wsX2_step wsX2_readFigures := goodIn_r _ [17, 2, 4, 6, 3, 5, 1, 7, 8, 9, 10, 11, 12, 13, 21, 22, 23, 24, 25, 26] (by decide +kernel) (by decide +kernel)
set_option maxRecDepth 20000 in
theorem gX2_step_X2_readFigures : GoodIn wsX2_step (wsV RX2 81 RX2 yX2_readFigures wsX2_readFigures) := goodIn_app (goodIn_of _ (by decide +kernel)) ggX2_step_X2_readFigures
set_option maxRecDepth 20000 in
theorem ggX2_step_X2_sortOf : GoodIn wsX2_step wsX2_sortOf := goodIn_r _ [20] (by decide +kernel) (by decide +kernel)
set_option maxRecDepth 20000 in
theorem gX2_step_X2_sortOf : GoodIn wsX2_step (va_wsS RX2 84 yX2_sortOf wsX2_sortOf) := goodIn_app (goodIn_of _ (by decide +kernel)) ggX2_step_X2_sortOf
theorem dX2_step_0 : decode cX2_step 0 = .ok (.aload_n 0, 1) := by decide +kernel
theorem dX2_step_1 : decode cX2_step 1 = .ok (.aload_n 0, 1) := by decide +kernel
theorem dX2_step_2 : decode cX2_step 2 = .ok (.getfield 23, 3) := by decide +kernel
theorem dX2_step_5 : decode cX2_step 5 = .ok (.putfield 70, 3) := by decide +kernel
theorem dX2_step_8 : decode cX2_step 8 = .ok (.aload_n 0, 1) := by decide +kernel
theorem dX2_step_9 : decode cX2_step 9 = .ok (.iconst 0, 1) := by decide +kernel
theorem dX2_step_10 : decode cX2_step 10 = .ok (.putfield 39, 3) := by decide +kernel
theorem dX2_step_13 : decode cX2_step 13 = .ok (.aload_n 0, 1) := by decide +kernel
theorem dX2_step_14 : decode cX2_step 14 = .ok (.getfield 70, 3) := by decide +kernel
theorem dX2_step_17 : decode cX2_step 17 = .ok (.aload_n 0, 1) := by decide +kernel
theorem dX2_step_18 : decode cX2_step 18 = .ok (.getfield 15, 3) := by decide +kernel
theorem dX2_step_21 : decode cX2_step 21 = .ok (.if_icmp .lt 11, 3) := by decide +kernel
theorem dX2_step_24 : decode cX2_step 24 = .ok (.aload_n 0, 1) := by decide +kernel
theorem dX2_step_25 : decode cX2_step 25 = .ok (.iconst 3, 1) := by decide +kernel
theorem dX2_step_26 : decode cX2_step 26 = .ok (.putfield 33, 3) := by decide +kernel
theorem dX2_step_29 : decode cX2_step 29 = .ok (.goto 63, 3) := by decide +kernel
theorem dX2_step_32 : decode cX2_step 32 = .ok (.aload_n 0, 1) := by decide +kernel
theorem dX2_step_33 : decode cX2_step 33 = .ok (.getfield 9, 3) := by decide +kernel
theorem dX2_step_36 : decode cX2_step 36 = .ok (.aload_n 0, 1) := by decide +kernel
theorem dX2_step_37 : decode cX2_step 37 = .ok (.getfield 70, 3) := by decide +kernel
theorem dX2_step_40 : decode cX2_step 40 = .ok (.invokestatic 73, 3) := by decide +kernel
theorem dX2_step_43 : decode cX2_step 43 = .ok (.invokestatic 77, 3) := by decide +kernel
theorem dX2_step_46 : decode cX2_step 46 = .ok (.ifCond .eq 10, 3) := by decide +kernel
theorem dX2_step_49 : decode cX2_step 49 = .ok (.aload_n 0, 1) := by decide +kernel
theorem dX2_step_50 : decode cX2_step 50 = .ok (.invokevirtual 81, 3) := by decide +kernel
theorem dX2_step_53 : decode cX2_step 53 = .ok (.goto 39, 3) := by decide +kernel
theorem dX2_step_56 : decode cX2_step 56 = .ok (.aload_n 0, 1) := by decide +kernel
theorem dX2_step_57 : decode cX2_step 57 = .ok (.aload_n 0, 1) := by decide +kernel
theorem dX2_step_58 : decode cX2_step 58 = .ok (.getfield 9, 3) := by decide +kernel
theorem dX2_step_61 : decode cX2_step 61 = .ok (.aload_n 0, 1) := by decide +kernel
theorem dX2_step_62 : decode cX2_step 62 = .ok (.getfield 70, 3) := by decide +kernel
theorem dX2_step_65 : decode cX2_step 65 = .ok (.invokestatic 73, 3) := by decide +kernel
theorem dX2_step_68 : decode cX2_step 68 = .ok (.putfield 39, 3) := by decide +kernel
theorem dX2_step_71 : decode cX2_step 71 = .ok (.aload_n 0, 1) := by decide +kernel
theorem dX2_step_72 : decode cX2_step 72 = .ok (.aload_n 0, 1) := by decide +kernel
theorem dX2_step_73 : decode cX2_step 73 = .ok (.getfield 39, 3) := by decide +kernel
theorem dX2_step_76 : decode cX2_step 76 = .ok (.invokestatic 84, 3) := by decide +kernel
theorem dX2_step_79 : decode cX2_step 79 = .ok (.putfield 33, 3) := by decide +kernel
theorem dX2_step_82 : decode cX2_step 82 = .ok (.aload_n 0, 1) := by decide +kernel
theorem dX2_step_83 : decode cX2_step 83 = .ok (.aload_n 0, 1) := by decide +kernel
theorem dX2_step_84 : decode cX2_step 84 = .ok (.getfield 70, 3) := by decide +kernel
theorem dX2_step_87 : decode cX2_step 87 = .ok (.iconst 1, 1) := by decide +kernel
theorem dX2_step_88 : decode cX2_step 88 = .ok (.iadd, 1) := by decide +kernel
theorem dX2_step_89 : decode cX2_step 89 = .ok (.putfield 23, 3) := by decide +kernel
theorem dX2_step_92 : decode cX2_step 92 = .ok (.return_, 1) := by decide +kernel
set_option maxRecDepth 20000 in
theorem ggX2_readFigures_X5_at : GoodIn wsX2_readFigures wsX5_at := goodIn_r _ [9] (by decide +kernel) (by decide +kernel)
set_option maxRecDepth 20000 in
theorem gX2_readFigures_X5_at_n73 : GoodIn wsX2_readFigures (wsX5_at) := ggX2_readFigures_X5_at
set_option maxRecDepth 20000 in
theorem ggX2_readFigures_X2_isFigure : GoodIn wsX2_readFigures wsX2_isFigure := goodIn_r _ [13] (by decide +kernel) (by decide +kernel)
set_option maxRecDepth 20000 in
theorem gX2_readFigures_X2_isFigure : GoodIn wsX2_readFigures (va_wsS RX2 77 yX2_isFigure wsX2_isFigure) := goodIn_app (goodIn_of _ (by decide +kernel)) ggX2_readFigures_X2_isFigure
theorem dX2_readFigures_0 : decode cX2_readFigures 0 = .ok (.iconst 0, 1) := by decide +kernel
theorem dX2_readFigures_1 : decode cX2_readFigures 1 = .ok (.istore_n 1, 1) := by decide +kernel
theorem dX2_readFigures_2 : decode cX2_readFigures 2 = .ok (.aload_n 0, 1) := by decide +kernel
theorem dX2_readFigures_3 : decode cX2_readFigures 3 = .ok (.getfield 70, 3) := by decide +kernel
theorem dX2_readFigures_6 : decode cX2_readFigures 6 = .ok (.istore_n 2, 1) := by decide +kernel
theorem dX2_readFigures_7 : decode cX2_readFigures 7 = .ok (.iload_n 2, 1) := by decide +kernel
theorem dX2_readFigures_8 : decode cX2_readFigures 8 = .ok (.aload_n 0, 1) := by decide +kernel
theorem dX2_readFigures_9 : decode cX2_readFigures 9 = .ok (.getfield 15, 3) := by decide +kernel
theorem dX2_readFigures_12 : decode cX2_readFigures 12 = .ok (.if_icmp .ge 54, 3) := by decide +kernel
theorem dX2_readFigures_15 : decode cX2_readFigures 15 = .ok (.aload_n 0, 1) := by decide +kernel
theorem dX2_readFigures_16 : decode cX2_readFigures 16 = .ok (.getfield 9, 3) := by decide +kernel
theorem dX2_readFigures_19 : decode cX2_readFigures 19 = .ok (.iload_n 2, 1) := by decide +kernel
theorem dX2_readFigures_20 : decode cX2_readFigures 20 = .ok (.invokestatic 73, 3) := by decide +kernel
theorem dX2_readFigures_23 : decode cX2_readFigures 23 = .ok (.invokestatic 77, 3) := by decide +kernel
theorem dX2_readFigures_26 : decode cX2_readFigures 26 = .ok (.ifCond .eq 40, 3) := by decide +kernel
theorem dX2_readFigures_29 : decode cX2_readFigures 29 = .ok (.iinc 1 1, 3) := by decide +kernel
theorem dX2_readFigures_32 : decode cX2_readFigures 32 = .ok (.iload_n 1, 1) := by decide +kernel
theorem dX2_readFigures_33 : decode cX2_readFigures 33 = .ok (.iconst 2, 1) := by decide +kernel
theorem dX2_readFigures_34 : decode cX2_readFigures 34 = .ok (.if_icmp .gt 26, 3) := by decide +kernel
theorem dX2_readFigures_37 : decode cX2_readFigures 37 = .ok (.aload_n 0, 1) := by decide +kernel
theorem dX2_readFigures_38 : decode cX2_readFigures 38 = .ok (.bipush 10, 2) := by decide +kernel
theorem dX2_readFigures_40 : decode cX2_readFigures 40 = .ok (.aload_n 0, 1) := by decide +kernel
theorem dX2_readFigures_41 : decode cX2_readFigures 41 = .ok (.getfield 39, 3) := by decide +kernel
theorem dX2_readFigures_44 : decode cX2_readFigures 44 = .ok (.imul, 1) := by decide +kernel
theorem dX2_readFigures_45 : decode cX2_readFigures 45 = .ok (.aload_n 0, 1) := by decide +kernel
theorem dX2_readFigures_46 : decode cX2_readFigures 46 = .ok (.getfield 9, 3) := by decide +kernel
theorem dX2_readFigures_49 : decode cX2_readFigures 49 = .ok (.iload_n 2, 1) := by decide +kernel
theorem dX2_readFigures_50 : decode cX2_readFigures 50 = .ok (.invokestatic 73, 3) := by decide +kernel
theorem dX2_readFigures_53 : decode cX2_readFigures 53 = .ok (.iadd, 1) := by decide +kernel
theorem dX2_readFigures_54 : decode cX2_readFigures 54 = .ok (.bipush 48, 2) := by decide +kernel
theorem dX2_readFigures_56 : decode cX2_readFigures 56 = .ok (.isub, 1) := by decide +kernel
theorem dX2_readFigures_57 : decode cX2_readFigures 57 = .ok (.putfield 39, 3) := by decide +kernel
theorem dX2_readFigures_60 : decode cX2_readFigures 60 = .ok (.iinc 2 1, 3) := by decide +kernel
theorem dX2_readFigures_63 : decode cX2_readFigures 63 = .ok (.goto (-56), 3) := by decide +kernel
theorem dX2_readFigures_66 : decode cX2_readFigures 66 = .ok (.aload_n 0, 1) := by decide +kernel
theorem dX2_readFigures_67 : decode cX2_readFigures 67 = .ok (.iload_n 1, 1) := by decide +kernel
theorem dX2_readFigures_68 : decode cX2_readFigures 68 = .ok (.iconst 2, 1) := by decide +kernel
theorem dX2_readFigures_69 : decode cX2_readFigures 69 = .ok (.if_icmp .gt 7, 3) := by decide +kernel
theorem dX2_readFigures_72 : decode cX2_readFigures 72 = .ok (.iconst 1, 1) := by decide +kernel
theorem dX2_readFigures_73 : decode cX2_readFigures 73 = .ok (.goto 4, 3) := by decide +kernel
theorem dX2_readFigures_76 : decode cX2_readFigures 76 = .ok (.iconst 4, 1) := by decide +kernel
theorem dX2_readFigures_77 : decode cX2_readFigures 77 = .ok (.putfield 33, 3) := by decide +kernel
theorem dX2_readFigures_80 : decode cX2_readFigures 80 = .ok (.aload_n 0, 1) := by decide +kernel
theorem dX2_readFigures_81 : decode cX2_readFigures 81 = .ok (.aload_n 0, 1) := by decide +kernel
theorem dX2_readFigures_82 : decode cX2_readFigures 82 = .ok (.getfield 70, 3) := by decide +kernel
theorem dX2_readFigures_85 : decode cX2_readFigures 85 = .ok (.iload_n 1, 1) := by decide +kernel
theorem dX2_readFigures_86 : decode cX2_readFigures 86 = .ok (.iadd, 1) := by decide +kernel
theorem dX2_readFigures_87 : decode cX2_readFigures 87 = .ok (.putfield 23, 3) := by decide +kernel
theorem dX2_readFigures_90 : decode cX2_readFigures 90 = .ok (.return_, 1) := by decide +kernel
theorem dX2_isFigure_0 : decode cX2_isFigure 0 = .ok (.iload_n 0, 1) := by decide +kernel
theorem dX2_isFigure_1 : decode cX2_isFigure 1 = .ok (.bipush 48, 2) := by decide +kernel
theorem dX2_isFigure_3 : decode cX2_isFigure 3 = .ok (.if_icmp .lt 13, 3) := by decide +kernel
theorem dX2_isFigure_6 : decode cX2_isFigure 6 = .ok (.iload_n 0, 1) := by decide +kernel
theorem dX2_isFigure_7 : decode cX2_isFigure 7 = .ok (.bipush 57, 2) := by decide +kernel
theorem dX2_isFigure_9 : decode cX2_isFigure 9 = .ok (.if_icmp .gt 7, 3) := by decide +kernel
theorem dX2_isFigure_12 : decode cX2_isFigure 12 = .ok (.iconst 1, 1) := by decide +kernel
theorem dX2_isFigure_13 : decode cX2_isFigure 13 = .ok (.goto 4, 3) := by decide +kernel
theorem dX2_isFigure_16 : decode cX2_isFigure 16 = .ok (.iconst 0, 1) := by decide +kernel
theorem dX2_isFigure_17 : decode cX2_isFigure 17 = .ok (.ireturn, 1) := by decide +kernel
theorem dX2_sortOf_0 : decode cX2_sortOf 0 = .ok (.iload_n 0, 1) := by decide +kernel
theorem dX2_sortOf_1 : decode cX2_sortOf 1 = .ok (.bipush 97, 2) := by decide +kernel
theorem dX2_sortOf_3 : decode cX2_sortOf 3 = .ok (.if_icmp .lt 11, 3) := by decide +kernel
theorem dX2_sortOf_6 : decode cX2_sortOf 6 = .ok (.iload_n 0, 1) := by decide +kernel
theorem dX2_sortOf_7 : decode cX2_sortOf 7 = .ok (.bipush 122, 2) := by decide +kernel
theorem dX2_sortOf_9 : decode cX2_sortOf 9 = .ok (.if_icmp .gt 5, 3) := by decide +kernel
theorem dX2_sortOf_12 : decode cX2_sortOf 12 = .ok (.iconst 0, 1) := by decide +kernel
theorem dX2_sortOf_13 : decode cX2_sortOf 13 = .ok (.ireturn, 1) := by decide +kernel
theorem dX2_sortOf_14 : decode cX2_sortOf 14 = .ok (.iload_n 0, 1) := by decide +kernel
theorem dX2_sortOf_15 : decode cX2_sortOf 15 = .ok (.bipush 44, 2) := by decide +kernel
theorem dX2_sortOf_17 : decode cX2_sortOf 17 = .ok (.if_icmp .eq 9, 3) := by decide +kernel
theorem dX2_sortOf_20 : decode cX2_sortOf 20 = .ok (.iload_n 0, 1) := by decide +kernel
theorem dX2_sortOf_21 : decode cX2_sortOf 21 = .ok (.bipush 59, 2) := by decide +kernel
theorem dX2_sortOf_23 : decode cX2_sortOf 23 = .ok (.if_icmp .ne 7, 3) := by decide +kernel
theorem dX2_sortOf_26 : decode cX2_sortOf 26 = .ok (.iconst 2, 1) := by decide +kernel
theorem dX2_sortOf_27 : decode cX2_sortOf 27 = .ok (.goto 4, 3) := by decide +kernel
theorem dX2_sortOf_30 : decode cX2_sortOf 30 = .ok (.iconst 4, 1) := by decide +kernel
theorem dX2_sortOf_31 : decode cX2_sortOf 31 = .ok (.ireturn, 1) := by decide +kernel
theorem dX3_init_0 : decode cX3_init 0 = .ok (.aload_n 0, 1) := by decide +kernel
theorem dX3_init_1 : decode cX3_init 1 = .ok (.invokespecial 3, 3) := by decide +kernel
theorem dX3_init_4 : decode cX3_init 4 = .ok (.aload_n 0, 1) := by decide +kernel
theorem dX3_init_5 : decode cX3_init 5 = .ok (.bipush 40, 2) := by decide +kernel
theorem dX3_init_7 : decode cX3_init 7 = .ok (.newarray .int, 2) := by decide +kernel
theorem dX3_init_9 : decode cX3_init 9 = .ok (.putfield 9, 3) := by decide +kernel
theorem dX3_init_12 : decode cX3_init 12 = .ok (.return_, 1) := by decide +kernel
theorem dX3_begin_0 : decode cX3_begin 0 = .ok (.aload_n 0, 1) := by decide +kernel
theorem dX3_begin_1 : decode cX3_begin 1 = .ok (.iconst 1, 1) := by decide +kernel
theorem dX3_begin_2 : decode cX3_begin 2 = .ok (.putfield 15, 3) := by decide +kernel
theorem dX3_begin_5 : decode cX3_begin 5 = .ok (.aload_n 0, 1) := by decide +kernel
theorem dX3_begin_6 : decode cX3_begin 6 = .ok (.iload_n 1, 1) := by decide +kernel
theorem dX3_begin_7 : decode cX3_begin 7 = .ok (.putfield 19, 3) := by decide +kernel
theorem dX3_begin_10 : decode cX3_begin 10 = .ok (.aload_n 0, 1) := by decide +kernel
theorem dX3_begin_11 : decode cX3_begin 11 = .ok (.iload_n 2, 1) := by decide +kernel
theorem dX3_begin_12 : decode cX3_begin 12 = .ok (.putfield 23, 3) := by decide +kernel
theorem dX3_begin_15 : decode cX3_begin 15 = .ok (.iconst 0, 1) := by decide +kernel
theorem dX3_begin_16 : decode cX3_begin 16 = .ok (.istore_n 3, 1) := by decide +kernel
theorem dX3_begin_17 : decode cX3_begin 17 = .ok (.iload_n 3, 1) := by decide +kernel
theorem dX3_begin_18 : decode cX3_begin 18 = .ok (.aload_n 0, 1) := by decide +kernel
theorem dX3_begin_19 : decode cX3_begin 19 = .ok (.getfield 9, 3) := by decide +kernel
theorem dX3_begin_22 : decode cX3_begin 22 = .ok (.arraylength, 1) := by decide +kernel
theorem dX3_begin_23 : decode cX3_begin 23 = .ok (.if_icmp .ge 16, 3) := by decide +kernel
theorem dX3_begin_26 : decode cX3_begin 26 = .ok (.aload_n 0, 1) := by decide +kernel
theorem dX3_begin_27 : decode cX3_begin 27 = .ok (.getfield 9, 3) := by decide +kernel
theorem dX3_begin_30 : decode cX3_begin 30 = .ok (.iload_n 3, 1) := by decide +kernel
theorem dX3_begin_31 : decode cX3_begin 31 = .ok (.iconst 0, 1) := by decide +kernel
theorem dX3_begin_32 : decode cX3_begin 32 = .ok (.iastore, 1) := by decide +kernel
theorem dX3_begin_33 : decode cX3_begin 33 = .ok (.iinc 3 1, 3) := by decide +kernel
theorem dX3_begin_36 : decode cX3_begin 36 = .ok (.goto (-19), 3) := by decide +kernel
theorem dX3_begin_39 : decode cX3_begin 39 = .ok (.return_, 1) := by decide +kernel
theorem dX3_holds_0 : decode cX3_holds 0 = .ok (.iload_n 1, 1) := by decide +kernel
theorem dX3_holds_1 : decode cX3_holds 1 = .ok (.ifCond .lt 21, 3) := by decide +kernel
theorem dX3_holds_4 : decode cX3_holds 4 = .ok (.iload_n 2, 1) := by decide +kernel
theorem dX3_holds_5 : decode cX3_holds 5 = .ok (.ifCond .lt 17, 3) := by decide +kernel
theorem dX3_holds_8 : decode cX3_holds 8 = .ok (.iload_n 1, 1) := by decide +kernel
theorem dX3_holds_9 : decode cX3_holds 9 = .ok (.aload_n 0, 1) := by decide +kernel
theorem dX3_holds_10 : decode cX3_holds 10 = .ok (.getfield 23, 3) := by decide +kernel
theorem dX3_holds_13 : decode cX3_holds 13 = .ok (.iload_n 2, 1) := by decide +kernel
theorem dX3_holds_14 : decode cX3_holds 14 = .ok (.isub, 1) := by decide +kernel
theorem dX3_holds_15 : decode cX3_holds 15 = .ok (.if_icmp .gt 7, 3) := by decide +kernel
theorem dX3_holds_18 : decode cX3_holds 18 = .ok (.iconst 1, 1) := by decide +kernel
theorem dX3_holds_19 : decode cX3_holds 19 = .ok (.goto 4, 3) := by decide +kernel
theorem dX3_holds_22 : decode cX3_holds 22 = .ok (.iconst 0, 1) := by decide +kernel
theorem dX3_holds_23 : decode cX3_holds 23 = .ok (.ireturn, 1) := by decide +kernel
set_option maxRecDepth 20000 in
theorem ggX3_item_X5_at : GoodIn wsX3_item wsX5_at := goodIn_r _ [4] (by decide +kernel) (by decide +kernel)
set_option maxRecDepth 20000 in
theorem gX3_item_X5_at_n26 : GoodIn wsX3_item (wsX5_at) := ggX3_item_X5_at
theorem dX3_item_0 : decode cX3_item 0 = .ok (.aload_n 0, 1) := by decide +kernel
theorem dX3_item_1 : decode cX3_item 1 = .ok (.getfield 9, 3) := by decide +kernel
theorem dX3_item_4 : decode cX3_item 4 = .ok (.iload_n 1, 1) := by decide +kernel
theorem dX3_item_5 : decode cX3_item 5 = .ok (.invokestatic 26, 3) := by decide +kernel
theorem dX3_item_8 : decode cX3_item 8 = .ok (.ireturn, 1) := by decide +kernel
set_option maxRecDepth 20000 in
theorem ggX3_write_X5_put : GoodIn wsX3_write wsX5_put := goodIn_r _ [5] (by decide +kernel) (by decide +kernel)
set_option maxRecDepth 20000 in
theorem gX3_write_X5_put_n30 : GoodIn wsX3_write (wsX5_put) := ggX3_write_X5_put
theorem dX3_write_0 : decode cX3_write 0 = .ok (.aload_n 0, 1) := by decide +kernel
theorem dX3_write_1 : decode cX3_write 1 = .ok (.getfield 19, 3) := by decide +kernel
theorem dX3_write_4 : decode cX3_write 4 = .ok (.lookupswitch 54 #[(0, 28), (1, 41)], 28) := by decide +kernel
theorem dX3_write_32 : decode cX3_write 32 = .ok (.aload_n 0, 1) := by decide +kernel
theorem dX3_write_33 : decode cX3_write 33 = .ok (.getfield 9, 3) := by decide +kernel
theorem dX3_write_36 : decode cX3_write 36 = .ok (.iload_n 1, 1) := by decide +kernel
theorem dX3_write_37 : decode cX3_write 37 = .ok (.iload_n 2, 1) := by decide +kernel
theorem dX3_write_38 : decode cX3_write 38 = .ok (.i2b, 1) := by decide +kernel
theorem dX3_write_39 : decode cX3_write 39 = .ok (.invokestatic 30, 3) := by decide +kernel
theorem dX3_write_42 : decode cX3_write 42 = .ok (.goto 25, 3) := by decide +kernel
theorem dX3_write_45 : decode cX3_write 45 = .ok (.aload_n 0, 1) := by decide +kernel
theorem dX3_write_46 : decode cX3_write 46 = .ok (.getfield 9, 3) := by decide +kernel
theorem dX3_write_49 : decode cX3_write 49 = .ok (.iload_n 1, 1) := by decide +kernel
theorem dX3_write_50 : decode cX3_write 50 = .ok (.iload_n 2, 1) := by decide +kernel
theorem dX3_write_51 : decode cX3_write 51 = .ok (.i2s, 1) := by decide +kernel
theorem dX3_write_52 : decode cX3_write 52 = .ok (.invokestatic 30, 3) := by decide +kernel
theorem dX3_write_55 : decode cX3_write 55 = .ok (.goto 12, 3) := by decide +kernel
theorem dX3_write_58 : decode cX3_write 58 = .ok (.aload_n 0, 1) := by decide +kernel
theorem dX3_write_59 : decode cX3_write 59 = .ok (.getfield 9, 3) := by decide +kernel
theorem dX3_write_62 : decode cX3_write 62 = .ok (.iload_n 1, 1) := by decide +kernel
theorem dX3_write_63 : decode cX3_write 63 = .ok (.iload_n 2, 1) := by decide +kernel
theorem dX3_write_64 : decode cX3_write 64 = .ok (.invokestatic 30, 3) := by decide +kernel
theorem dX3_write_67 : decode cX3_write 67 = .ok (.return_, 1) := by decide +kernel
set_option maxRecDepth 20000 in
theorem ggX3_takeFrom_X3_holds : GoodIn wsX3_takeFrom wsX3_holds := goodIn_r _ [10, 11, 12, 13, 14, 15] (by decide +kernel) (by decide +kernel)
set_option maxRecDepth 20000 in
theorem gX3_takeFrom_X3_holds : GoodIn wsX3_takeFrom (wsV RX3 34 RX3 yX3_holds wsX3_holds) := goodIn_app (goodIn_of _ (by decide +kernel)) ggX3_takeFrom_X3_holds
theorem dX3_takeFrom_0 : decode cX3_takeFrom 0 = .ok (.aload_n 1, 1) := by decide +kernel
theorem dX3_takeFrom_1 : decode cX3_takeFrom 1 = .ok (.iload_n 2, 1) := by decide +kernel
theorem dX3_takeFrom_2 : decode cX3_takeFrom 2 = .ok (.iload 4, 2) := by decide +kernel
theorem dX3_takeFrom_4 : decode cX3_takeFrom 4 = .ok (.invokevirtual 34, 3) := by decide +kernel
theorem dX3_takeFrom_7 : decode cX3_takeFrom 7 = .ok (.ifCond .eq 28, 3) := by decide +kernel
theorem dX3_takeFrom_10 : decode cX3_takeFrom 10 = .ok (.aload_n 0, 1) := by decide +kernel
theorem dX3_takeFrom_11 : decode cX3_takeFrom 11 = .ok (.iload_n 3, 1) := by decide +kernel
theorem dX3_takeFrom_12 : decode cX3_takeFrom 12 = .ok (.iload 4, 2) := by decide +kernel
theorem dX3_takeFrom_14 : decode cX3_takeFrom 14 = .ok (.invokevirtual 34, 3) := by decide +kernel
theorem dX3_takeFrom_17 : decode cX3_takeFrom 17 = .ok (.ifCond .eq 18, 3) := by decide +kernel
theorem dX3_takeFrom_20 : decode cX3_takeFrom 20 = .ok (.aload_n 1, 1) := by decide +kernel
theorem dX3_takeFrom_21 : decode cX3_takeFrom 21 = .ok (.getfield 9, 3) := by decide +kernel
theorem dX3_takeFrom_24 : decode cX3_takeFrom 24 = .ok (.iload_n 2, 1) := by decide +kernel
theorem dX3_takeFrom_25 : decode cX3_takeFrom 25 = .ok (.aload_n 0, 1) := by decide +kernel
theorem dX3_takeFrom_26 : decode cX3_takeFrom 26 = .ok (.getfield 9, 3) := by decide +kernel
theorem dX3_takeFrom_29 : decode cX3_takeFrom 29 = .ok (.iload_n 3, 1) := by decide +kernel
theorem dX3_takeFrom_30 : decode cX3_takeFrom 30 = .ok (.iload 4, 2) := by decide +kernel
theorem dX3_takeFrom_32 : decode cX3_takeFrom 32 = .ok (.invokestatic 38, 3) := by decide +kernel
theorem dX3_takeFrom_35 : decode cX3_takeFrom 35 = .ok (.return_, 1) := by decide +kernel
set_option maxRecDepth 20000 in
theorem ggX3_sumOf_X5_has : GoodIn wsX3_sumOf wsX5_has := goodIn_r _ [3] (by decide +kernel) (by decide +kernel)
set_option maxRecDepth 20000 in
theorem gX3_sumOf_X5_has_n44 : GoodIn wsX3_sumOf (wsX5_has) := ggX3_sumOf_X5_has
set_option maxRecDepth 20000 in
theorem ggX3_sumOf_X3_item : GoodIn wsX3_sumOf wsX3_item := goodIn_r _ [8, 9, 10, 2, 11, 12, 13, 14, 15] (by decide +kernel) (by decide +kernel)
set_option maxRecDepth 20000 in
theorem gX3_sumOf_X3_item : GoodIn wsX3_sumOf (wsV RX3 47 RX3 yX3_item wsX3_item) := goodIn_app (goodIn_of _ (by decide +kernel)) ggX3_sumOf_X3_item
theorem dX3_sumOf_0 : decode cX3_sumOf 0 = .ok (.lconst 0, 1) := by decide +kernel
theorem dX3_sumOf_1 : decode cX3_sumOf 1 = .ok (.lstore 4, 2) := by decide +kernel
theorem dX3_sumOf_3 : decode cX3_sumOf 3 = .ok (.iconst 0, 1) := by decide +kernel
theorem dX3_sumOf_4 : decode cX3_sumOf 4 = .ok (.istore 6, 2) := by decide +kernel
theorem dX3_sumOf_6 : decode cX3_sumOf 6 = .ok (.iload 6, 2) := by decide +kernel
theorem dX3_sumOf_8 : decode cX3_sumOf 8 = .ok (.iload_n 3, 1) := by decide +kernel
theorem dX3_sumOf_9 : decode cX3_sumOf 9 = .ok (.if_icmp .ge 32, 3) := by decide +kernel
theorem dX3_sumOf_12 : decode cX3_sumOf 12 = .ok (.iload_n 1, 1) := by decide +kernel
theorem dX3_sumOf_13 : decode cX3_sumOf 13 = .ok (.iload 6, 2) := by decide +kernel
theorem dX3_sumOf_15 : decode cX3_sumOf 15 = .ok (.invokestatic 44, 3) := by decide +kernel
theorem dX3_sumOf_18 : decode cX3_sumOf 18 = .ok (.ifCond .eq 17, 3) := by decide +kernel
theorem dX3_sumOf_21 : decode cX3_sumOf 21 = .ok (.lload 4, 2) := by decide +kernel
theorem dX3_sumOf_23 : decode cX3_sumOf 23 = .ok (.aload_n 0, 1) := by decide +kernel
theorem dX3_sumOf_24 : decode cX3_sumOf 24 = .ok (.iload_n 2, 1) := by decide +kernel
theorem dX3_sumOf_25 : decode cX3_sumOf 25 = .ok (.iload 6, 2) := by decide +kernel
theorem dX3_sumOf_27 : decode cX3_sumOf 27 = .ok (.iadd, 1) := by decide +kernel
theorem dX3_sumOf_28 : decode cX3_sumOf 28 = .ok (.invokevirtual 47, 3) := by decide +kernel
theorem dX3_sumOf_31 : decode cX3_sumOf 31 = .ok (.i2l, 1) := by decide +kernel
theorem dX3_sumOf_32 : decode cX3_sumOf 32 = .ok (.ladd, 1) := by decide +kernel
theorem dX3_sumOf_33 : decode cX3_sumOf 33 = .ok (.lstore 4, 2) := by decide +kernel
theorem dX3_sumOf_35 : decode cX3_sumOf 35 = .ok (.iinc 6 1, 3) := by decide +kernel
theorem dX3_sumOf_38 : decode cX3_sumOf 38 = .ok (.goto (-32), 3) := by decide +kernel
theorem dX3_sumOf_41 : decode cX3_sumOf 41 = .ok (.lload 4, 2) := by decide +kernel
theorem dX3_sumOf_43 : decode cX3_sumOf 43 = .ok (.lreturn, 1) := by decide +kernel
theorem dX4_init_0 : decode cX4_init 0 = .ok (.aload_n 0, 1) := by decide +kernel
theorem dX4_init_1 : decode cX4_init 1 = .ok (.invokespecial 3, 3) := by decide +kernel
theorem dX4_init_4 : decode cX4_init 4 = .ok (.aload_n 0, 1) := by decide +kernel
theorem dX4_init_5 : decode cX4_init 5 = .ok (.bipush 8, 2) := by decide +kernel
theorem dX4_init_7 : decode cX4_init 7 = .ok (.newarray .int, 2) := by decide +kernel
theorem dX4_init_9 : decode cX4_init 9 = .ok (.putfield 9, 3) := by decide +kernel
theorem dX4_init_12 : decode cX4_init 12 = .ok (.aload_n 0, 1) := by decide +kernel
theorem dX4_init_13 : decode cX4_init 13 = .ok (.bipush 8, 2) := by decide +kernel
theorem dX4_init_15 : decode cX4_init 15 = .ok (.newarray .int, 2) := by decide +kernel
theorem dX4_init_17 : decode cX4_init 17 = .ok (.putfield 15, 3) := by decide +kernel
theorem dX4_init_20 : decode cX4_init 20 = .ok (.aload_n 0, 1) := by decide +kernel
theorem dX4_init_21 : decode cX4_init 21 = .ok (.bipush 8, 2) := by decide +kernel
theorem dX4_init_23 : decode cX4_init 23 = .ok (.newarray .int, 2) := by decide +kernel
theorem dX4_init_25 : decode cX4_init 25 = .ok (.putfield 18, 3) := by decide +kernel
theorem dX4_init_28 : decode cX4_init 28 = .ok (.return_, 1) := by decide +kernel
theorem dX4_begin_0 : decode cX4_begin 0 = .ok (.aload_n 0, 1) := by decide +kernel
theorem dX4_begin_1 : decode cX4_begin 1 = .ok (.iload_n 1, 1) := by decide +kernel
theorem dX4_begin_2 : decode cX4_begin 2 = .ok (.putfield 21, 3) := by decide +kernel
theorem dX4_begin_5 : decode cX4_begin 5 = .ok (.aload_n 0, 1) := by decide +kernel
theorem dX4_begin_6 : decode cX4_begin 6 = .ok (.iconst 0, 1) := by decide +kernel
theorem dX4_begin_7 : decode cX4_begin 7 = .ok (.putfield 25, 3) := by decide +kernel
theorem dX4_begin_10 : decode cX4_begin 10 = .ok (.aload_n 0, 1) := by decide +kernel
theorem dX4_begin_11 : decode cX4_begin 11 = .ok (.iconst 0, 1) := by decide +kernel
theorem dX4_begin_12 : decode cX4_begin 12 = .ok (.putfield 28, 3) := by decide +kernel
theorem dX4_begin_15 : decode cX4_begin 15 = .ok (.aload_n 0, 1) := by decide +kernel
theorem dX4_begin_16 : decode cX4_begin 16 = .ok (.iconst 0, 1) := by decide +kernel
theorem dX4_begin_17 : decode cX4_begin 17 = .ok (.putfield 31, 3) := by decide +kernel
theorem dX4_begin_20 : decode cX4_begin 20 = .ok (.aload_n 0, 1) := by decide +kernel
theorem dX4_begin_21 : decode cX4_begin 21 = .ok (.iconst 0, 1) := by decide +kernel
theorem dX4_begin_22 : decode cX4_begin 22 = .ok (.putfield 34, 3) := by decide +kernel
theorem dX4_begin_25 : decode cX4_begin 25 = .ok (.return_, 1) := by decide +kernel
set_option maxRecDepth 20000 in
theorem ggX4_become_X5_at : GoodIn wsX4_become wsX5_at := goodIn_r _ [11] (by decide +kernel) (by decide +kernel)
set_option maxRecDepth 20000 in
theorem gX4_become_X5_at_n37 : GoodIn wsX4_become (wsX5_at) := ggX4_become_X5_at
set_option maxRecDepth 20000 in
theorem ggX4_become_X5_put : GoodIn wsX4_become wsX5_put := goodIn_r _ [13] (by decide +kernel) (by decide +kernel)
set_option maxRecDepth 20000 in
theorem gX4_become_X5_put_n41 : GoodIn wsX4_become (wsX5_put) := ggX4_become_X5_put
theorem dX4_become_0 : decode cX4_become 0 = .ok (.iconst 0, 1) := by decide +kernel
theorem dX4_become_1 : decode cX4_become 1 = .ok (.istore_n 2, 1) := by decide +kernel
theorem dX4_become_2 : decode cX4_become 2 = .ok (.iload_n 2, 1) := by decide +kernel
theorem dX4_become_3 : decode cX4_become 3 = .ok (.bipush 8, 2) := by decide +kernel
theorem dX4_become_5 : decode cX4_become 5 = .ok (.if_icmp .ge 57, 3) := by decide +kernel
theorem dX4_become_8 : decode cX4_become 8 = .ok (.aload_n 0, 1) := by decide +kernel
theorem dX4_become_9 : decode cX4_become 9 = .ok (.getfield 9, 3) := by decide +kernel
theorem dX4_become_12 : decode cX4_become 12 = .ok (.iload_n 2, 1) := by decide +kernel
theorem dX4_become_13 : decode cX4_become 13 = .ok (.aload_n 1, 1) := by decide +kernel
theorem dX4_become_14 : decode cX4_become 14 = .ok (.getfield 9, 3) := by decide +kernel
theorem dX4_become_17 : decode cX4_become 17 = .ok (.iload_n 2, 1) := by decide +kernel
theorem dX4_become_18 : decode cX4_become 18 = .ok (.invokestatic 37, 3) := by decide +kernel
theorem dX4_become_21 : decode cX4_become 21 = .ok (.invokestatic 41, 3) := by decide +kernel
theorem dX4_become_24 : decode cX4_become 24 = .ok (.aload_n 0, 1) := by decide +kernel
theorem dX4_become_25 : decode cX4_become 25 = .ok (.getfield 15, 3) := by decide +kernel
theorem dX4_become_28 : decode cX4_become 28 = .ok (.iload_n 2, 1) := by decide +kernel
theorem dX4_become_29 : decode cX4_become 29 = .ok (.aload_n 1, 1) := by decide +kernel
theorem dX4_become_30 : decode cX4_become 30 = .ok (.getfield 15, 3) := by decide +kernel
theorem dX4_become_33 : decode cX4_become 33 = .ok (.iload_n 2, 1) := by decide +kernel
theorem dX4_become_34 : decode cX4_become 34 = .ok (.invokestatic 37, 3) := by decide +kernel
theorem dX4_become_37 : decode cX4_become 37 = .ok (.invokestatic 41, 3) := by decide +kernel
theorem dX4_become_40 : decode cX4_become 40 = .ok (.aload_n 0, 1) := by decide +kernel
theorem dX4_become_41 : decode cX4_become 41 = .ok (.getfield 18, 3) := by decide +kernel
theorem dX4_become_44 : decode cX4_become 44 = .ok (.iload_n 2, 1) := by decide +kernel
theorem dX4_become_45 : decode cX4_become 45 = .ok (.aload_n 1, 1) := by decide +kernel
theorem dX4_become_46 : decode cX4_become 46 = .ok (.getfield 18, 3) := by decide +kernel
theorem dX4_become_49 : decode cX4_become 49 = .ok (.iload_n 2, 1) := by decide +kernel
theorem dX4_become_50 : decode cX4_become 50 = .ok (.invokestatic 37, 3) := by decide +kernel
theorem dX4_become_53 : decode cX4_become 53 = .ok (.invokestatic 41, 3) := by decide +kernel
theorem dX4_become_56 : decode cX4_become 56 = .ok (.iinc 2 1, 3) := by decide +kernel
theorem dX4_become_59 : decode cX4_become 59 = .ok (.goto (-57), 3) := by decide +kernel
theorem dX4_become_62 : decode cX4_become 62 = .ok (.aload_n 0, 1) := by decide +kernel
theorem dX4_become_63 : decode cX4_become 63 = .ok (.aload_n 1, 1) := by decide +kernel
theorem dX4_become_64 : decode cX4_become 64 = .ok (.getfield 21, 3) := by decide +kernel
theorem dX4_become_67 : decode cX4_become 67 = .ok (.putfield 21, 3) := by decide +kernel
theorem dX4_become_70 : decode cX4_become 70 = .ok (.aload_n 0, 1) := by decide +kernel
theorem dX4_become_71 : decode cX4_become 71 = .ok (.aload_n 1, 1) := by decide +kernel
theorem dX4_become_72 : decode cX4_become 72 = .ok (.getfield 25, 3) := by decide +kernel
theorem dX4_become_75 : decode cX4_become 75 = .ok (.putfield 25, 3) := by decide +kernel
theorem dX4_become_78 : decode cX4_become 78 = .ok (.aload_n 0, 1) := by decide +kernel
theorem dX4_become_79 : decode cX4_become 79 = .ok (.aload_n 1, 1) := by decide +kernel
theorem dX4_become_80 : decode cX4_become 80 = .ok (.getfield 28, 3) := by decide +kernel
theorem dX4_become_83 : decode cX4_become 83 = .ok (.putfield 28, 3) := by decide +kernel
theorem dX4_become_86 : decode cX4_become 86 = .ok (.aload_n 0, 1) := by decide +kernel
theorem dX4_become_87 : decode cX4_become 87 = .ok (.aload_n 1, 1) := by decide +kernel
theorem dX4_become_88 : decode cX4_become 88 = .ok (.getfield 31, 3) := by decide +kernel
theorem dX4_become_91 : decode cX4_become 91 = .ok (.putfield 31, 3) := by decide +kernel
theorem dX4_become_94 : decode cX4_become 94 = .ok (.aload_n 0, 1) := by decide +kernel
theorem dX4_become_95 : decode cX4_become 95 = .ok (.aload_n 1, 1) := by decide +kernel
theorem dX4_become_96 : decode cX4_become 96 = .ok (.getfield 34, 3) := by decide +kernel
theorem dX4_become_99 : decode cX4_become 99 = .ok (.putfield 34, 3) := by decide +kernel
theorem dX4_become_102 : decode cX4_become 102 = .ok (.return_, 1) := by decide +kernel
theorem dX4_stands_0 : decode cX4_stands 0 = .ok (.aload_n 0, 1) := by decide +kernel
theorem dX4_stands_1 : decode cX4_stands 1 = .ok (.getfield 21, 3) := by decide +kernel
theorem dX4_stands_4 : decode cX4_stands 4 = .ok (.ifCond .le 7, 3) := by decide +kernel
theorem dX4_stands_7 : decode cX4_stands 7 = .ok (.iconst 1, 1) := by decide +kernel
theorem dX4_stands_8 : decode cX4_stands 8 = .ok (.goto 4, 3) := by decide +kernel
theorem dX4_stands_11 : decode cX4_stands 11 = .ok (.iconst 0, 1) := by decide +kernel
theorem dX4_stands_12 : decode cX4_stands 12 = .ok (.ireturn, 1) := by decide +kernel
theorem dX4_isPerson_0 : decode cX4_isPerson 0 = .ok (.iload_n 1, 1) := by decide +kernel
theorem dX4_isPerson_1 : decode cX4_isPerson 1 = .ok (.ifCond .lt 15, 3) := by decide +kernel
theorem dX4_isPerson_4 : decode cX4_isPerson 4 = .ok (.iload_n 1, 1) := by decide +kernel
theorem dX4_isPerson_5 : decode cX4_isPerson 5 = .ok (.aload_n 0, 1) := by decide +kernel
theorem dX4_isPerson_6 : decode cX4_isPerson 6 = .ok (.getfield 21, 3) := by decide +kernel
theorem dX4_isPerson_9 : decode cX4_isPerson 9 = .ok (.if_icmp .ge 7, 3) := by decide +kernel
theorem dX4_isPerson_12 : decode cX4_isPerson 12 = .ok (.iconst 1, 1) := by decide +kernel
theorem dX4_isPerson_13 : decode cX4_isPerson 13 = .ok (.goto 4, 3) := by decide +kernel
theorem dX4_isPerson_16 : decode cX4_isPerson 16 = .ok (.iconst 0, 1) := by decide +kernel
theorem dX4_isPerson_17 : decode cX4_isPerson 17 = .ok (.ireturn, 1) := by decide +kernel
set_option maxRecDepth 20000 in
theorem ggX4_isSet_X4_everybody : GoodIn wsX4_isSet wsX4_everybody := goodIn_r _ [5, 6, 7, 8, 9, 10, 11, 12, 13, 14] (by decide +kernel) (by decide +kernel)
set_option maxRecDepth 20000 in
theorem gX4_isSet_X4_everybody : GoodIn wsX4_isSet (wsV RX4 45 RX4 yX4_everybody wsX4_everybody) := goodIn_app (goodIn_of _ (by decide +kernel)) ggX4_isSet_X4_everybody
theorem dX4_isSet_0 : decode cX4_isSet 0 = .ok (.iload_n 1, 1) := by decide +kernel
theorem dX4_isSet_1 : decode cX4_isSet 1 = .ok (.ifCond .lt 15, 3) := by decide +kernel
theorem dX4_isSet_4 : decode cX4_isSet 4 = .ok (.iload_n 1, 1) := by decide +kernel
theorem dX4_isSet_5 : decode cX4_isSet 5 = .ok (.aload_n 0, 1) := by decide +kernel
theorem dX4_isSet_6 : decode cX4_isSet 6 = .ok (.invokevirtual 45, 3) := by decide +kernel
theorem dX4_isSet_9 : decode cX4_isSet 9 = .ok (.if_icmp .gt 7, 3) := by decide +kernel
theorem dX4_isSet_12 : decode cX4_isSet 12 = .ok (.iconst 1, 1) := by decide +kernel
theorem dX4_isSet_13 : decode cX4_isSet 13 = .ok (.goto 4, 3) := by decide +kernel
theorem dX4_isSet_16 : decode cX4_isSet 16 = .ok (.iconst 0, 1) := by decide +kernel
theorem dX4_isSet_17 : decode cX4_isSet 17 = .ok (.ireturn, 1) := by decide +kernel
theorem dX4_isTie_0 : decode cX4_isTie 0 = .ok (.iload_n 1, 1) := by decide +kernel
theorem dX4_isTie_1 : decode cX4_isTie 1 = .ok (.ifCond .lt 15, 3) := by decide +kernel
theorem dX4_isTie_4 : decode cX4_isTie 4 = .ok (.iload_n 1, 1) := by decide +kernel
theorem dX4_isTie_5 : decode cX4_isTie 5 = .ok (.aload_n 0, 1) := by decide +kernel
theorem dX4_isTie_6 : decode cX4_isTie 6 = .ok (.getfield 25, 3) := by decide +kernel
theorem dX4_isTie_9 : decode cX4_isTie 9 = .ok (.if_icmp .ge 7, 3) := by decide +kernel
theorem dX4_isTie_12 : decode cX4_isTie 12 = .ok (.iconst 1, 1) := by decide +kernel
theorem dX4_isTie_13 : decode cX4_isTie 13 = .ok (.goto 4, 3) := by decide +kernel
theorem dX4_isTie_16 : decode cX4_isTie 16 = .ok (.iconst 0, 1) := by decide +kernel
theorem dX4_isTie_17 : decode cX4_isTie 17 = .ok (.ireturn, 1) := by decide +kernel
theorem dX4_everybody_0 : decode cX4_everybody 0 = .ok (.iconst 1, 1) := by decide +kernel
theorem dX4_everybody_1 : decode cX4_everybody 1 = .ok (.aload_n 0, 1) := by decide +kernel
theorem dX4_everybody_2 : decode cX4_everybody 2 = .ok (.getfield 21, 3) := by decide +kernel
theorem dX4_everybody_5 : decode cX4_everybody 5 = .ok (.ishl, 1) := by decide +kernel
theorem dX4_everybody_6 : decode cX4_everybody 6 = .ok (.iconst 1, 1) := by decide +kernel
theorem dX4_everybody_7 : decode cX4_everybody 7 = .ok (.isub, 1) := by decide +kernel
theorem dX4_everybody_8 : decode cX4_everybody 8 = .ok (.ireturn, 1) := by decide +kernel
set_option maxRecDepth 20000 in
theorem ggX4_there_X4_everybody : GoodIn wsX4_there wsX4_everybody := goodIn_r _ [6, 7, 8, 9, 10, 11, 12, 13, 14, 15] (by decide +kernel) (by decide +kernel)
set_option maxRecDepth 20000 in
theorem gX4_there_X4_everybody : GoodIn wsX4_there (wsV RX4 45 RX4 yX4_everybody wsX4_everybody) := goodIn_app (goodIn_of _ (by decide +kernel)) ggX4_there_X4_everybody
theorem dX4_there_0 : decode cX4_there 0 = .ok (.aload_n 0, 1) := by decide +kernel
theorem dX4_there_1 : decode cX4_there 1 = .ok (.invokevirtual 45, 3) := by decide +kernel
theorem dX4_there_4 : decode cX4_there 4 = .ok (.aload_n 0, 1) := by decide +kernel
theorem dX4_there_5 : decode cX4_there 5 = .ok (.getfield 28, 3) := by decide +kernel
theorem dX4_there_8 : decode cX4_there 8 = .ok (.iconst (-1), 1) := by decide +kernel
theorem dX4_there_9 : decode cX4_there 9 = .ok (.ixor, 1) := by decide +kernel
theorem dX4_there_10 : decode cX4_there 10 = .ok (.iand, 1) := by decide +kernel
theorem dX4_there_11 : decode cX4_there 11 = .ok (.ireturn, 1) := by decide +kernel
set_option maxRecDepth 20000 in
theorem ggX4_kindOf_X5_at : GoodIn wsX4_kindOf wsX5_at := goodIn_r _ [4] (by decide +kernel) (by decide +kernel)
set_option maxRecDepth 20000 in
theorem gX4_kindOf_X5_at_n37 : GoodIn wsX4_kindOf (wsX5_at) := ggX4_kindOf_X5_at
theorem dX4_kindOf_0 : decode cX4_kindOf 0 = .ok (.aload_n 0, 1) := by decide +kernel
theorem dX4_kindOf_1 : decode cX4_kindOf 1 = .ok (.getfield 9, 3) := by decide +kernel
theorem dX4_kindOf_4 : decode cX4_kindOf 4 = .ok (.iload_n 1, 1) := by decide +kernel
theorem dX4_kindOf_5 : decode cX4_kindOf 5 = .ok (.invokestatic 37, 3) := by decide +kernel
theorem dX4_kindOf_8 : decode cX4_kindOf 8 = .ok (.ireturn, 1) := by decide +kernel
set_option maxRecDepth 20000 in
theorem ggX4_setOf_X5_at : GoodIn wsX4_setOf wsX5_at := goodIn_r _ [4] (by decide +kernel) (by decide +kernel)
set_option maxRecDepth 20000 in
theorem gX4_setOf_X5_at_n37 : GoodIn wsX4_setOf (wsX5_at) := ggX4_setOf_X5_at
theorem dX4_setOf_0 : decode cX4_setOf 0 = .ok (.aload_n 0, 1) := by decide +kernel
theorem dX4_setOf_1 : decode cX4_setOf 1 = .ok (.getfield 15, 3) := by decide +kernel
theorem dX4_setOf_4 : decode cX4_setOf 4 = .ok (.iload_n 1, 1) := by decide +kernel
theorem dX4_setOf_5 : decode cX4_setOf 5 = .ok (.invokestatic 37, 3) := by decide +kernel
theorem dX4_setOf_8 : decode cX4_setOf 8 = .ok (.ireturn, 1) := by decide +kernel
set_option maxRecDepth 20000 in
theorem ggX4_worthOf_X5_at : GoodIn wsX4_worthOf wsX5_at := goodIn_r _ [4] (by decide +kernel) (by decide +kernel)
set_option maxRecDepth 20000 in
theorem gX4_worthOf_X5_at_n37 : GoodIn wsX4_worthOf (wsX5_at) := ggX4_worthOf_X5_at
theorem dX4_worthOf_0 : decode cX4_worthOf 0 = .ok (.aload_n 0, 1) := by decide +kernel
theorem dX4_worthOf_1 : decode cX4_worthOf 1 = .ok (.getfield 18, 3) := by decide +kernel
theorem dX4_worthOf_4 : decode cX4_worthOf 4 = .ok (.iload_n 1, 1) := by decide +kernel
theorem dX4_worthOf_5 : decode cX4_worthOf 5 = .ok (.invokestatic 37, 3) := by decide +kernel
theorem dX4_worthOf_8 : decode cX4_worthOf 8 = .ok (.ireturn, 1) := by decide +kernel
set_option maxRecDepth 20000 in
theorem ggX4_addTie_X5_put : GoodIn wsX4_addTie wsX5_put := goodIn_r _ [7] (by decide +kernel) (by decide +kernel)
set_option maxRecDepth 20000 in
theorem gX4_addTie_X5_put_n41 : GoodIn wsX4_addTie (wsX5_put) := ggX4_addTie_X5_put
theorem dX4_addTie_0 : decode cX4_addTie 0 = .ok (.aload_n 0, 1) := by decide +kernel
theorem dX4_addTie_1 : decode cX4_addTie 1 = .ok (.getfield 25, 3) := by decide +kernel
theorem dX4_addTie_4 : decode cX4_addTie 4 = .ok (.bipush 8, 2) := by decide +kernel
theorem dX4_addTie_6 : decode cX4_addTie 6 = .ok (.if_icmp .ge 49, 3) := by decide +kernel
theorem dX4_addTie_9 : decode cX4_addTie 9 = .ok (.aload_n 0, 1) := by decide +kernel
theorem dX4_addTie_10 : decode cX4_addTie 10 = .ok (.getfield 9, 3) := by decide +kernel
theorem dX4_addTie_13 : decode cX4_addTie 13 = .ok (.aload_n 0, 1) := by decide +kernel
theorem dX4_addTie_14 : decode cX4_addTie 14 = .ok (.getfield 25, 3) := by decide +kernel
theorem dX4_addTie_17 : decode cX4_addTie 17 = .ok (.iload_n 1, 1) := by decide +kernel
theorem dX4_addTie_18 : decode cX4_addTie 18 = .ok (.invokestatic 41, 3) := by decide +kernel
theorem dX4_addTie_21 : decode cX4_addTie 21 = .ok (.aload_n 0, 1) := by decide +kernel
theorem dX4_addTie_22 : decode cX4_addTie 22 = .ok (.getfield 15, 3) := by decide +kernel
theorem dX4_addTie_25 : decode cX4_addTie 25 = .ok (.aload_n 0, 1) := by decide +kernel
theorem dX4_addTie_26 : decode cX4_addTie 26 = .ok (.getfield 25, 3) := by decide +kernel
theorem dX4_addTie_29 : decode cX4_addTie 29 = .ok (.iload_n 2, 1) := by decide +kernel
theorem dX4_addTie_30 : decode cX4_addTie 30 = .ok (.invokestatic 41, 3) := by decide +kernel
theorem dX4_addTie_33 : decode cX4_addTie 33 = .ok (.aload_n 0, 1) := by decide +kernel
theorem dX4_addTie_34 : decode cX4_addTie 34 = .ok (.getfield 18, 3) := by decide +kernel
theorem dX4_addTie_37 : decode cX4_addTie 37 = .ok (.aload_n 0, 1) := by decide +kernel
theorem dX4_addTie_38 : decode cX4_addTie 38 = .ok (.getfield 25, 3) := by decide +kernel
theorem dX4_addTie_41 : decode cX4_addTie 41 = .ok (.iload_n 3, 1) := by decide +kernel
theorem dX4_addTie_42 : decode cX4_addTie 42 = .ok (.invokestatic 41, 3) := by decide +kernel
theorem dX4_addTie_45 : decode cX4_addTie 45 = .ok (.aload_n 0, 1) := by decide +kernel
theorem dX4_addTie_46 : decode cX4_addTie 46 = .ok (.dup, 1) := by decide +kernel
theorem dX4_addTie_47 : decode cX4_addTie 47 = .ok (.getfield 25, 3) := by decide +kernel
theorem dX4_addTie_50 : decode cX4_addTie 50 = .ok (.iconst 1, 1) := by decide +kernel
theorem dX4_addTie_51 : decode cX4_addTie 51 = .ok (.iadd, 1) := by decide +kernel
theorem dX4_addTie_52 : decode cX4_addTie 52 = .ok (.putfield 25, 3) := by decide +kernel
theorem dX4_addTie_55 : decode cX4_addTie 55 = .ok (.return_, 1) := by decide +kernel
theorem dX4_dropTie_0 : decode cX4_dropTie 0 = .ok (.aload_n 0, 1) := by decide +kernel
theorem dX4_dropTie_1 : decode cX4_dropTie 1 = .ok (.getfield 25, 3) := by decide +kernel
theorem dX4_dropTie_4 : decode cX4_dropTie 4 = .ok (.ifCond .le 13, 3) := by decide +kernel
theorem dX4_dropTie_7 : decode cX4_dropTie 7 = .ok (.aload_n 0, 1) := by decide +kernel
theorem dX4_dropTie_8 : decode cX4_dropTie 8 = .ok (.dup, 1) := by decide +kernel
theorem dX4_dropTie_9 : decode cX4_dropTie 9 = .ok (.getfield 25, 3) := by decide +kernel
theorem dX4_dropTie_12 : decode cX4_dropTie 12 = .ok (.iconst 1, 1) := by decide +kernel
theorem dX4_dropTie_13 : decode cX4_dropTie 13 = .ok (.isub, 1) := by decide +kernel
theorem dX4_dropTie_14 : decode cX4_dropTie 14 = .ok (.putfield 25, 3) := by decide +kernel
theorem dX4_dropTie_17 : decode cX4_dropTie 17 = .ok (.return_, 1) := by decide +kernel
set_option maxRecDepth 20000 in
theorem ggX4_counts_X4_setOf : GoodIn wsX4_counts wsX4_setOf := goodIn_r _ [9, 10, 11, 12, 13, 26, 27, 28, 29, 30, 31, 32, 33] (by decide +kernel) (by decide +kernel)
set_option maxRecDepth 20000 in
theorem gX4_counts_X4_setOf : GoodIn wsX4_counts (wsV RX4 49 RX4 yX4_setOf wsX4_setOf) := goodIn_app (goodIn_of _ (by decide +kernel)) ggX4_counts_X4_setOf
set_option maxRecDepth 20000 in
theorem ggX4_counts_X4_worthOf : GoodIn wsX4_counts wsX4_worthOf := goodIn_r _ [17, 18, 11, 12, 13, 26, 27, 28, 29, 30, 31, 32, 33] (by decide +kernel) (by decide +kernel)
set_option maxRecDepth 20000 in
theorem gX4_counts_X4_worthOf : GoodIn wsX4_counts (wsV RX4 53 RX4 yX4_worthOf wsX4_worthOf) := goodIn_app (goodIn_of _ (by decide +kernel)) ggX4_counts_X4_worthOf
set_option maxRecDepth 20000 in
theorem ggX4_counts_J6_bitCount_0f7a4 : GoodIn wsX4_counts wsJ6_bitCount_0f7a4 := goodIn_r _ [22, 23, 24, 25] (by decide +kernel) (by decide +kernel)
set_option maxRecDepth 20000 in
theorem gX4_counts_J6_bitCount_0f7a4 : GoodIn wsX4_counts (va_wsS RX4 56 yJ6_bitCount_0f7a4 wsJ6_bitCount_0f7a4) := goodIn_app (goodIn_of _ (by decide +kernel)) ggX4_counts_J6_bitCount_0f7a4
theorem dX4_counts_0 : decode cX4_counts 0 = .ok (.aload_n 0, 1) := by decide +kernel
theorem dX4_counts_1 : decode cX4_counts 1 = .ok (.iload_n 1, 1) := by decide +kernel
theorem dX4_counts_2 : decode cX4_counts 2 = .ok (.invokevirtual 49, 3) := by decide +kernel
theorem dX4_counts_5 : decode cX4_counts 5 = .ok (.istore 4, 2) := by decide +kernel
theorem dX4_counts_7 : decode cX4_counts 7 = .ok (.aload_n 0, 1) := by decide +kernel
theorem dX4_counts_8 : decode cX4_counts 8 = .ok (.iload_n 1, 1) := by decide +kernel
theorem dX4_counts_9 : decode cX4_counts 9 = .ok (.invokevirtual 53, 3) := by decide +kernel
theorem dX4_counts_12 : decode cX4_counts 12 = .ok (.istore 5, 2) := by decide +kernel
theorem dX4_counts_14 : decode cX4_counts 14 = .ok (.iload 4, 2) := by decide +kernel
theorem dX4_counts_16 : decode cX4_counts 16 = .ok (.iload_n 3, 1) := by decide +kernel
theorem dX4_counts_17 : decode cX4_counts 17 = .ok (.iand, 1) := by decide +kernel
theorem dX4_counts_18 : decode cX4_counts 18 = .ok (.istore 6, 2) := by decide +kernel
theorem dX4_counts_20 : decode cX4_counts 20 = .ok (.iload_n 2, 1) := by decide +kernel
theorem dX4_counts_21 : decode cX4_counts 21 = .ok (.tableswitch 103 1 5 #[35, 49, 64, 79, 91], 35) := by decide +kernel
theorem dX4_counts_56 : decode cX4_counts 56 = .ok (.iload 6, 2) := by decide +kernel
theorem dX4_counts_58 : decode cX4_counts 58 = .ok (.iload 4, 2) := by decide +kernel
theorem dX4_counts_60 : decode cX4_counts 60 = .ok (.if_icmp .ne 8, 3) := by decide +kernel
theorem dX4_counts_63 : decode cX4_counts 63 = .ok (.iload 5, 2) := by decide +kernel
theorem dX4_counts_65 : decode cX4_counts 65 = .ok (.goto 4, 3) := by decide +kernel
theorem dX4_counts_68 : decode cX4_counts 68 = .ok (.iconst 0, 1) := by decide +kernel
theorem dX4_counts_69 : decode cX4_counts 69 = .ok (.ireturn, 1) := by decide +kernel
theorem dX4_counts_70 : decode cX4_counts 70 = .ok (.iload 6, 2) := by decide +kernel
theorem dX4_counts_72 : decode cX4_counts 72 = .ok (.iload 4, 2) := by decide +kernel
theorem dX4_counts_74 : decode cX4_counts 74 = .ok (.if_icmp .ne 9, 3) := by decide +kernel
theorem dX4_counts_77 : decode cX4_counts 77 = .ok (.iload 5, 2) := by decide +kernel
theorem dX4_counts_79 : decode cX4_counts 79 = .ok (.ineg, 1) := by decide +kernel
theorem dX4_counts_80 : decode cX4_counts 80 = .ok (.goto 4, 3) := by decide +kernel
theorem dX4_counts_83 : decode cX4_counts 83 = .ok (.iconst 0, 1) := by decide +kernel
theorem dX4_counts_84 : decode cX4_counts 84 = .ok (.ireturn, 1) := by decide +kernel
theorem dX4_counts_85 : decode cX4_counts 85 = .ok (.iload 5, 2) := by decide +kernel
theorem dX4_counts_87 : decode cX4_counts 87 = .ok (.iconst 0, 1) := by decide +kernel
theorem dX4_counts_88 : decode cX4_counts 88 = .ok (.iload 6, 2) := by decide +kernel
theorem dX4_counts_90 : decode cX4_counts 90 = .ok (.invokestatic 56, 3) := by decide +kernel
theorem dX4_counts_93 : decode cX4_counts 93 = .ok (.iconst 1, 1) := by decide +kernel
theorem dX4_counts_94 : decode cX4_counts 94 = .ok (.isub, 1) := by decide +kernel
theorem dX4_counts_95 : decode cX4_counts 95 = .ok (.invokestatic 61, 3) := by decide +kernel
theorem dX4_counts_98 : decode cX4_counts 98 = .ok (.imul, 1) := by decide +kernel
theorem dX4_counts_99 : decode cX4_counts 99 = .ok (.ireturn, 1) := by decide +kernel
theorem dX4_counts_100 : decode cX4_counts 100 = .ok (.iload 6, 2) := by decide +kernel
theorem dX4_counts_102 : decode cX4_counts 102 = .ok (.ifCond .eq 8, 3) := by decide +kernel
theorem dX4_counts_105 : decode cX4_counts 105 = .ok (.iload 5, 2) := by decide +kernel
theorem dX4_counts_107 : decode cX4_counts 107 = .ok (.goto 4, 3) := by decide +kernel
theorem dX4_counts_110 : decode cX4_counts 110 = .ok (.iconst 0, 1) := by decide +kernel
theorem dX4_counts_111 : decode cX4_counts 111 = .ok (.ireturn, 1) := by decide +kernel
theorem dX4_counts_112 : decode cX4_counts 112 = .ok (.iload 6, 2) := by decide +kernel
theorem dX4_counts_114 : decode cX4_counts 114 = .ok (.ifCond .ne 8, 3) := by decide +kernel
theorem dX4_counts_117 : decode cX4_counts 117 = .ok (.iload 5, 2) := by decide +kernel
theorem dX4_counts_119 : decode cX4_counts 119 = .ok (.goto 4, 3) := by decide +kernel
theorem dX4_counts_122 : decode cX4_counts 122 = .ok (.iconst 0, 1) := by decide +kernel
theorem dX4_counts_123 : decode cX4_counts 123 = .ok (.ireturn, 1) := by decide +kernel
theorem dX4_counts_124 : decode cX4_counts 124 = .ok (.iconst 0, 1) := by decide +kernel
theorem dX4_counts_125 : decode cX4_counts 125 = .ok (.ireturn, 1) := by decide +kernel
set_option maxRecDepth 20000 in
theorem ggX4_worthOfSet_X4_kindOf : GoodIn wsX4_worthOfSet wsX4_kindOf := goodIn_r _ [6, 7, 8, 9, 10, 36, 37, 38, 39, 40, 41, 42, 43] (by decide +kernel) (by decide +kernel)
set_option maxRecDepth 20000 in
theorem gX4_worthOfSet_X4_kindOf : GoodIn wsX4_worthOfSet (wsV RX4 67 RX4 yX4_kindOf wsX4_kindOf) := goodIn_app (goodIn_of _ (by decide +kernel)) ggX4_worthOfSet_X4_kindOf
set_option maxRecDepth 20000 in
theorem ggX4_worthOfSet_X4_counts : GoodIn wsX4_worthOfSet wsX4_counts := goodIn_r _ [14, 15, 16, 17, 18, 19, 20, 21, 5, 22, 23, 8, 9, 10, 24, 25, 26, 27, 28, 29, 30, 31, 32, 33, 34, 35, 36, 37, 38, 39, 40, 41, 42, 43] (by decide +kernel) (by decide +kernel)
set_option maxRecDepth 20000 in
theorem gX4_worthOfSet_X4_counts : GoodIn wsX4_worthOfSet (wsV RX4 70 RX4 yX4_counts wsX4_counts) := goodIn_app (goodIn_of _ (by decide +kernel)) ggX4_worthOfSet_X4_counts
theorem dX4_worthOfSet_0 : decode cX4_worthOfSet 0 = .ok (.iconst 0, 1) := by decide +kernel
theorem dX4_worthOfSet_1 : decode cX4_worthOfSet 1 = .ok (.istore_n 2, 1) := by decide +kernel
theorem dX4_worthOfSet_2 : decode cX4_worthOfSet 2 = .ok (.iconst 0, 1) := by decide +kernel
theorem dX4_worthOfSet_3 : decode cX4_worthOfSet 3 = .ok (.istore_n 3, 1) := by decide +kernel
theorem dX4_worthOfSet_4 : decode cX4_worthOfSet 4 = .ok (.iload_n 3, 1) := by decide +kernel
theorem dX4_worthOfSet_5 : decode cX4_worthOfSet 5 = .ok (.aload_n 0, 1) := by decide +kernel
theorem dX4_worthOfSet_6 : decode cX4_worthOfSet 6 = .ok (.getfield 25, 3) := by decide +kernel
theorem dX4_worthOfSet_9 : decode cX4_worthOfSet 9 = .ok (.if_icmp .ge 23, 3) := by decide +kernel
theorem dX4_worthOfSet_12 : decode cX4_worthOfSet 12 = .ok (.iload_n 2, 1) := by decide +kernel
theorem dX4_worthOfSet_13 : decode cX4_worthOfSet 13 = .ok (.aload_n 0, 1) := by decide +kernel
theorem dX4_worthOfSet_14 : decode cX4_worthOfSet 14 = .ok (.iload_n 3, 1) := by decide +kernel
theorem dX4_worthOfSet_15 : decode cX4_worthOfSet 15 = .ok (.aload_n 0, 1) := by decide +kernel
theorem dX4_worthOfSet_16 : decode cX4_worthOfSet 16 = .ok (.iload_n 3, 1) := by decide +kernel
theorem dX4_worthOfSet_17 : decode cX4_worthOfSet 17 = .ok (.invokevirtual 67, 3) := by decide +kernel
theorem dX4_worthOfSet_20 : decode cX4_worthOfSet 20 = .ok (.iload_n 1, 1) := by decide +kernel
theorem dX4_worthOfSet_21 : decode cX4_worthOfSet 21 = .ok (.invokevirtual 70, 3) := by decide +kernel
theorem dX4_worthOfSet_24 : decode cX4_worthOfSet 24 = .ok (.iadd, 1) := by decide +kernel
theorem dX4_worthOfSet_25 : decode cX4_worthOfSet 25 = .ok (.istore_n 2, 1) := by decide +kernel
theorem dX4_worthOfSet_26 : decode cX4_worthOfSet 26 = .ok (.iinc 3 1, 3) := by decide +kernel
theorem dX4_worthOfSet_29 : decode cX4_worthOfSet 29 = .ok (.goto (-25), 3) := by decide +kernel
theorem dX4_worthOfSet_32 : decode cX4_worthOfSet 32 = .ok (.iload_n 2, 1) := by decide +kernel
theorem dX4_worthOfSet_33 : decode cX4_worthOfSet 33 = .ok (.ireturn, 1) := by decide +kernel
set_option maxRecDepth 20000 in
theorem ggX4_worthIfKind_X4_worthOfSet : GoodIn wsX4_worthIfKind wsX4_worthOfSet := goodIn_r _ [5, 6, 7, 8, 9, 4, 10, 11, 12, 13, 14, 15, 16, 17, 18, 19, 20, 21, 22, 23, 24, 25, 26, 27, 28, 29, 30, 31, 32, 33, 34, 35, 36, 37, 38, 39, 40, 41, 42, 43, 44, 45, 46, 47] (by decide +kernel) (by decide +kernel)
set_option maxRecDepth 20000 in
theorem gX4_worthIfKind_X4_worthOfSet : GoodIn wsX4_worthIfKind (wsV RX4 74 RX4 yX4_worthOfSet wsX4_worthOfSet) := goodIn_app (goodIn_of _ (by decide +kernel)) ggX4_worthIfKind_X4_worthOfSet
set_option maxRecDepth 20000 in
theorem ggX4_worthIfKind_X4_kindOf : GoodIn wsX4_worthIfKind wsX4_kindOf := goodIn_r _ [10, 11, 12, 13, 14, 40, 41, 42, 43, 44, 45, 46, 47] (by decide +kernel) (by decide +kernel)
set_option maxRecDepth 20000 in
theorem gX4_worthIfKind_X4_kindOf : GoodIn wsX4_worthIfKind (wsV RX4 67 RX4 yX4_kindOf wsX4_kindOf) := goodIn_app (goodIn_of _ (by decide +kernel)) ggX4_worthIfKind_X4_kindOf
set_option maxRecDepth 20000 in
theorem ggX4_worthIfKind_X4_counts : GoodIn wsX4_worthIfKind wsX4_counts := goodIn_r _ [18, 19, 20, 21, 22, 23, 24, 25, 4, 26, 27, 12, 13, 14, 28, 29, 30, 31, 32, 33, 34, 35, 36, 37, 38, 39, 40, 41, 42, 43, 44, 45, 46, 47] (by decide +kernel) (by decide +kernel)
set_option maxRecDepth 20000 in
theorem gX4_worthIfKind_X4_counts : GoodIn wsX4_worthIfKind (wsV RX4 70 RX4 yX4_counts wsX4_counts) := goodIn_app (goodIn_of _ (by decide +kernel)) ggX4_worthIfKind_X4_counts
theorem dX4_worthIfKind_0 : decode cX4_worthIfKind 0 = .ok (.aload_n 0, 1) := by decide +kernel
theorem dX4_worthIfKind_1 : decode cX4_worthIfKind 1 = .ok (.iload_n 1, 1) := by decide +kernel
theorem dX4_worthIfKind_2 : decode cX4_worthIfKind 2 = .ok (.invokevirtual 74, 3) := by decide +kernel
theorem dX4_worthIfKind_5 : decode cX4_worthIfKind 5 = .ok (.aload_n 0, 1) := by decide +kernel
theorem dX4_worthIfKind_6 : decode cX4_worthIfKind 6 = .ok (.iload_n 2, 1) := by decide +kernel
theorem dX4_worthIfKind_7 : decode cX4_worthIfKind 7 = .ok (.aload_n 0, 1) := by decide +kernel
theorem dX4_worthIfKind_8 : decode cX4_worthIfKind 8 = .ok (.iload_n 2, 1) := by decide +kernel
theorem dX4_worthIfKind_9 : decode cX4_worthIfKind 9 = .ok (.invokevirtual 67, 3) := by decide +kernel
theorem dX4_worthIfKind_12 : decode cX4_worthIfKind 12 = .ok (.iload_n 1, 1) := by decide +kernel
theorem dX4_worthIfKind_13 : decode cX4_worthIfKind 13 = .ok (.invokevirtual 70, 3) := by decide +kernel
theorem dX4_worthIfKind_16 : decode cX4_worthIfKind 16 = .ok (.isub, 1) := by decide +kernel
theorem dX4_worthIfKind_17 : decode cX4_worthIfKind 17 = .ok (.aload_n 0, 1) := by decide +kernel
theorem dX4_worthIfKind_18 : decode cX4_worthIfKind 18 = .ok (.iload_n 2, 1) := by decide +kernel
theorem dX4_worthIfKind_19 : decode cX4_worthIfKind 19 = .ok (.iload_n 3, 1) := by decide +kernel
theorem dX4_worthIfKind_20 : decode cX4_worthIfKind 20 = .ok (.iload_n 1, 1) := by decide +kernel
theorem dX4_worthIfKind_21 : decode cX4_worthIfKind 21 = .ok (.invokevirtual 70, 3) := by decide +kernel
theorem dX4_worthIfKind_24 : decode cX4_worthIfKind 24 = .ok (.iadd, 1) := by decide +kernel
theorem dX4_worthIfKind_25 : decode cX4_worthIfKind 25 = .ok (.ireturn, 1) := by decide +kernel
set_option maxRecDepth 20000 in
theorem ggX4_addedBy_X4_worthOfSet : GoodIn wsX4_addedBy wsX4_worthOfSet := goodIn_r _ [5, 6, 7, 8, 9, 4, 10, 11, 12, 13, 14, 15, 16, 17, 18, 19, 20, 21, 22, 23, 24, 25, 26, 27, 28, 29, 30, 31, 32, 33, 34, 35, 36, 37, 38, 39, 40, 41, 42, 43, 44, 45, 46, 47] (by decide +kernel) (by decide +kernel)
set_option maxRecDepth 20000 in
theorem gX4_addedBy_X4_worthOfSet : GoodIn wsX4_addedBy (wsV RX4 74 RX4 yX4_worthOfSet wsX4_worthOfSet) := goodIn_app (goodIn_of _ (by decide +kernel)) ggX4_addedBy_X4_worthOfSet
theorem dX4_addedBy_0 : decode cX4_addedBy 0 = .ok (.aload_n 0, 1) := by decide +kernel
theorem dX4_addedBy_1 : decode cX4_addedBy 1 = .ok (.iload_n 2, 1) := by decide +kernel
theorem dX4_addedBy_2 : decode cX4_addedBy 2 = .ok (.iconst 1, 1) := by decide +kernel
theorem dX4_addedBy_3 : decode cX4_addedBy 3 = .ok (.iload_n 1, 1) := by decide +kernel
theorem dX4_addedBy_4 : decode cX4_addedBy 4 = .ok (.ishl, 1) := by decide +kernel
theorem dX4_addedBy_5 : decode cX4_addedBy 5 = .ok (.ior, 1) := by decide +kernel
theorem dX4_addedBy_6 : decode cX4_addedBy 6 = .ok (.invokevirtual 74, 3) := by decide +kernel
theorem dX4_addedBy_9 : decode cX4_addedBy 9 = .ok (.aload_n 0, 1) := by decide +kernel
theorem dX4_addedBy_10 : decode cX4_addedBy 10 = .ok (.iload_n 2, 1) := by decide +kernel
theorem dX4_addedBy_11 : decode cX4_addedBy 11 = .ok (.invokevirtual 74, 3) := by decide +kernel
theorem dX4_addedBy_14 : decode cX4_addedBy 14 = .ok (.isub, 1) := by decide +kernel
theorem dX4_addedBy_15 : decode cX4_addedBy 15 = .ok (.ireturn, 1) := by decide +kernel
set_option maxRecDepth 20000 in
theorem ggX4_lostWithout_X4_everybody : GoodIn wsX4_lostWithout wsX4_everybody := goodIn_r _ [5, 6, 45, 46, 47, 48, 49, 50, 51, 52] (by decide +kernel) (by decide +kernel)
set_option maxRecDepth 20000 in
theorem gX4_lostWithout_X4_everybody : GoodIn wsX4_lostWithout (wsV RX4 45 RX4 yX4_everybody wsX4_everybody) := goodIn_app (goodIn_of _ (by decide +kernel)) ggX4_lostWithout_X4_everybody
set_option maxRecDepth 20000 in
theorem ggX4_lostWithout_X4_worthOfSet : GoodIn wsX4_lostWithout wsX4_worthOfSet := goodIn_r _ [10, 11, 12, 13, 14, 4, 15, 16, 17, 18, 19, 20, 21, 22, 23, 24, 25, 26, 27, 28, 29, 30, 31, 32, 33, 34, 35, 36, 37, 38, 39, 40, 41, 42, 43, 44, 45, 46, 47, 48, 49, 50, 51, 52] (by decide +kernel) (by decide +kernel)
set_option maxRecDepth 20000 in
theorem gX4_lostWithout_X4_worthOfSet : GoodIn wsX4_lostWithout (wsV RX4 74 RX4 yX4_worthOfSet wsX4_worthOfSet) := goodIn_app (goodIn_of _ (by decide +kernel)) ggX4_lostWithout_X4_worthOfSet
theorem dX4_lostWithout_0 : decode cX4_lostWithout 0 = .ok (.aload_n 0, 1) := by decide +kernel
theorem dX4_lostWithout_1 : decode cX4_lostWithout 1 = .ok (.aload_n 0, 1) := by decide +kernel
theorem dX4_lostWithout_2 : decode cX4_lostWithout 2 = .ok (.invokevirtual 45, 3) := by decide +kernel
theorem dX4_lostWithout_5 : decode cX4_lostWithout 5 = .ok (.invokevirtual 74, 3) := by decide +kernel
theorem dX4_lostWithout_8 : decode cX4_lostWithout 8 = .ok (.aload_n 0, 1) := by decide +kernel
theorem dX4_lostWithout_9 : decode cX4_lostWithout 9 = .ok (.aload_n 0, 1) := by decide +kernel
theorem dX4_lostWithout_10 : decode cX4_lostWithout 10 = .ok (.invokevirtual 45, 3) := by decide +kernel
theorem dX4_lostWithout_13 : decode cX4_lostWithout 13 = .ok (.iload_n 1, 1) := by decide +kernel
theorem dX4_lostWithout_14 : decode cX4_lostWithout 14 = .ok (.iconst (-1), 1) := by decide +kernel
theorem dX4_lostWithout_15 : decode cX4_lostWithout 15 = .ok (.ixor, 1) := by decide +kernel
theorem dX4_lostWithout_16 : decode cX4_lostWithout 16 = .ok (.iand, 1) := by decide +kernel
theorem dX4_lostWithout_17 : decode cX4_lostWithout 17 = .ok (.invokevirtual 74, 3) := by decide +kernel
theorem dX4_lostWithout_20 : decode cX4_lostWithout 20 = .ok (.isub, 1) := by decide +kernel
theorem dX4_lostWithout_21 : decode cX4_lostWithout 21 = .ok (.ireturn, 1) := by decide +kernel
set_option maxRecDepth 20000 in
theorem ggX4_areMissedOnlyTogether_X4_lostWithout : GoodIn wsX4_areMissedOnlyTogether wsX4_lostWithout := goodIn_r _ [5, 6, 7, 8, 4, 9, 10, 11, 12, 13, 14, 15, 16, 17, 18, 19, 20, 21, 22, 23, 24, 25, 26, 27, 28, 29, 30, 31, 32, 33, 34, 35, 36, 37, 38, 39, 40, 41, 42, 43, 44, 45, 46, 47, 48, 49, 50, 51, 52, 53, 54, 55, 56] (by decide +kernel) (by decide +kernel)
set_option maxRecDepth 20000 in
theorem gX4_areMissedOnlyTogether_X4_lostWithout : GoodIn wsX4_areMissedOnlyTogether (wsV RX4 77 RX4 yX4_lostWithout wsX4_lostWithout) := goodIn_app (goodIn_of _ (by decide +kernel)) ggX4_areMissedOnlyTogether_X4_lostWithout
theorem dX4_areMissedOnlyTogether_0 : decode cX4_areMissedOnlyTogether 0 = .ok (.aload_n 0, 1) := by decide +kernel
theorem dX4_areMissedOnlyTogether_1 : decode cX4_areMissedOnlyTogether 1 = .ok (.iconst 1, 1) := by decide +kernel
theorem dX4_areMissedOnlyTogether_2 : decode cX4_areMissedOnlyTogether 2 = .ok (.iload_n 1, 1) := by decide +kernel
theorem dX4_areMissedOnlyTogether_3 : decode cX4_areMissedOnlyTogether 3 = .ok (.ishl, 1) := by decide +kernel
theorem dX4_areMissedOnlyTogether_4 : decode cX4_areMissedOnlyTogether 4 = .ok (.invokevirtual 77, 3) := by decide +kernel
theorem dX4_areMissedOnlyTogether_7 : decode cX4_areMissedOnlyTogether 7 = .ok (.ifCond .ne 31, 3) := by decide +kernel
theorem dX4_areMissedOnlyTogether_10 : decode cX4_areMissedOnlyTogether 10 = .ok (.aload_n 0, 1) := by decide +kernel
theorem dX4_areMissedOnlyTogether_11 : decode cX4_areMissedOnlyTogether 11 = .ok (.iconst 1, 1) := by decide +kernel
theorem dX4_areMissedOnlyTogether_12 : decode cX4_areMissedOnlyTogether 12 = .ok (.iload_n 2, 1) := by decide +kernel
theorem dX4_areMissedOnlyTogether_13 : decode cX4_areMissedOnlyTogether 13 = .ok (.ishl, 1) := by decide +kernel
theorem dX4_areMissedOnlyTogether_14 : decode cX4_areMissedOnlyTogether 14 = .ok (.invokevirtual 77, 3) := by decide +kernel
theorem dX4_areMissedOnlyTogether_17 : decode cX4_areMissedOnlyTogether 17 = .ok (.ifCond .ne 21, 3) := by decide +kernel
theorem dX4_areMissedOnlyTogether_20 : decode cX4_areMissedOnlyTogether 20 = .ok (.aload_n 0, 1) := by decide +kernel
theorem dX4_areMissedOnlyTogether_21 : decode cX4_areMissedOnlyTogether 21 = .ok (.iconst 1, 1) := by decide +kernel
theorem dX4_areMissedOnlyTogether_22 : decode cX4_areMissedOnlyTogether 22 = .ok (.iload_n 1, 1) := by decide +kernel
theorem dX4_areMissedOnlyTogether_23 : decode cX4_areMissedOnlyTogether 23 = .ok (.ishl, 1) := by decide +kernel
theorem dX4_areMissedOnlyTogether_24 : decode cX4_areMissedOnlyTogether 24 = .ok (.iconst 1, 1) := by decide +kernel
theorem dX4_areMissedOnlyTogether_25 : decode cX4_areMissedOnlyTogether 25 = .ok (.iload_n 2, 1) := by decide +kernel
theorem dX4_areMissedOnlyTogether_26 : decode cX4_areMissedOnlyTogether 26 = .ok (.ishl, 1) := by decide +kernel
theorem dX4_areMissedOnlyTogether_27 : decode cX4_areMissedOnlyTogether 27 = .ok (.ior, 1) := by decide +kernel
theorem dX4_areMissedOnlyTogether_28 : decode cX4_areMissedOnlyTogether 28 = .ok (.invokevirtual 77, 3) := by decide +kernel
theorem dX4_areMissedOnlyTogether_31 : decode cX4_areMissedOnlyTogether 31 = .ok (.ifCond .le 7, 3) := by decide +kernel
theorem dX4_areMissedOnlyTogether_34 : decode cX4_areMissedOnlyTogether 34 = .ok (.iconst 1, 1) := by decide +kernel
theorem dX4_areMissedOnlyTogether_35 : decode cX4_areMissedOnlyTogether 35 = .ok (.goto 4, 3) := by decide +kernel
theorem dX4_areMissedOnlyTogether_38 : decode cX4_areMissedOnlyTogether 38 = .ok (.iconst 0, 1) := by decide +kernel
theorem dX4_areMissedOnlyTogether_39 : decode cX4_areMissedOnlyTogether 39 = .ok (.ireturn, 1) := by decide +kernel
set_option maxRecDepth 20000 in
theorem ggX5_init_X3_init : GoodIn wsX5_init wsX3_init := goodIn_r _ [29, 30, 2, 3, 31, 32, 61, 62, 63, 64] (by decide +kernel) (by decide +kernel)
set_option maxRecDepth 20000 in
theorem gX5_init_X3_init_n15 : GoodIn wsX5_init (wsX3_init) := ggX5_init_X3_init
set_option maxRecDepth 20000 in
theorem ggX5_init_X2_init : GoodIn wsX5_init wsX2_init := goodIn_r _ [34, 35, 2, 3, 31, 36, 65, 66, 67, 68, 69, 70] (by decide +kernel) (by decide +kernel)
set_option maxRecDepth 20000 in
theorem gX5_init_X2_init_n18 : GoodIn wsX5_init (wsX2_init) := ggX5_init_X2_init
set_option maxRecDepth 20000 in
theorem ggX5_init_X4_init : GoodIn wsX5_init wsX4_init := goodIn_r _ [38, 39, 2, 3, 31, 40, 41, 42, 71, 72, 73, 74, 75, 76, 77, 78] (by decide +kernel) (by decide +kernel)
set_option maxRecDepth 20000 in
theorem gX5_init_X4_init_n25 : GoodIn wsX5_init (wsX4_init) := ggX5_init_X4_init
set_option maxRecDepth 20000 in
theorem ggX5_init_X0_init : GoodIn wsX5_init wsX0_init := goodIn_r _ [44, 45, 2, 3, 31, 46, 79, 80] (by decide +kernel) (by decide +kernel)
set_option maxRecDepth 20000 in
theorem gX5_init_X0_init_n39 : GoodIn wsX5_init (wsX0_init) := ggX5_init_X0_init
set_option maxRecDepth 20000 in
theorem ggX5_init_X1_init : GoodIn wsX5_init wsX1_init := goodIn_r _ [48, 49, 2, 3, 50, 31, 51, 81, 82, 83] (by decide +kernel) (by decide +kernel)
set_option maxRecDepth 20000 in
theorem gX5_init_X1_init_n46 : GoodIn wsX5_init (wsX1_init) := ggX5_init_X1_init
theorem dX5_init_0 : decode cX5_init 0 = .ok (.aload_n 0, 1) := by decide +kernel
theorem dX5_init_1 : decode cX5_init 1 = .ok (.invokespecial 1, 3) := by decide +kernel
theorem dX5_init_4 : decode cX5_init 4 = .ok (.aload_n 0, 1) := by decide +kernel
theorem dX5_init_5 : decode cX5_init 5 = .ok (.bipush 8, 2) := by decide +kernel
theorem dX5_init_7 : decode cX5_init 7 = .ok (.anewarray 9, 3) := by decide +kernel
theorem dX5_init_10 : decode cX5_init 10 = .ok (.putfield 11, 3) := by decide +kernel
theorem dX5_init_13 : decode cX5_init 13 = .ok (.iconst 0, 1) := by decide +kernel
theorem dX5_init_14 : decode cX5_init 14 = .ok (.istore_n 1, 1) := by decide +kernel
theorem dX5_init_15 : decode cX5_init 15 = .ok (.iload_n 1, 1) := by decide +kernel
theorem dX5_init_16 : decode cX5_init 16 = .ok (.aload_n 0, 1) := by decide +kernel
theorem dX5_init_17 : decode cX5_init 17 = .ok (.getfield 11, 3) := by decide +kernel
theorem dX5_init_20 : decode cX5_init 20 = .ok (.arraylength, 1) := by decide +kernel
theorem dX5_init_21 : decode cX5_init 21 = .ok (.if_icmp .ge 22, 3) := by decide +kernel
theorem dX5_init_24 : decode cX5_init 24 = .ok (.aload_n 0, 1) := by decide +kernel
theorem dX5_init_25 : decode cX5_init 25 = .ok (.getfield 11, 3) := by decide +kernel
theorem dX5_init_28 : decode cX5_init 28 = .ok (.iload_n 1, 1) := by decide +kernel
theorem dX5_init_29 : decode cX5_init 29 = .ok (.new 9, 3) := by decide +kernel
theorem dX5_init_32 : decode cX5_init 32 = .ok (.dup, 1) := by decide +kernel
theorem dX5_init_33 : decode cX5_init 33 = .ok (.invokespecial 15, 3) := by decide +kernel
theorem dX5_init_36 : decode cX5_init 36 = .ok (.aastore, 1) := by decide +kernel
theorem dX5_init_37 : decode cX5_init 37 = .ok (.iinc 1 1, 3) := by decide +kernel
theorem dX5_init_40 : decode cX5_init 40 = .ok (.goto (-25), 3) := by decide +kernel
theorem dX5_init_43 : decode cX5_init 43 = .ok (.aload_n 0, 1) := by decide +kernel
theorem dX5_init_44 : decode cX5_init 44 = .ok (.new 16, 3) := by decide +kernel
theorem dX5_init_47 : decode cX5_init 47 = .ok (.dup, 1) := by decide +kernel
theorem dX5_init_48 : decode cX5_init 48 = .ok (.invokespecial 18, 3) := by decide +kernel
theorem dX5_init_51 : decode cX5_init 51 = .ok (.putfield 19, 3) := by decide +kernel
theorem dX5_init_54 : decode cX5_init 54 = .ok (.aload_n 0, 1) := by decide +kernel
theorem dX5_init_55 : decode cX5_init 55 = .ok (.new 23, 3) := by decide +kernel
theorem dX5_init_58 : decode cX5_init 58 = .ok (.dup, 1) := by decide +kernel
theorem dX5_init_59 : decode cX5_init 59 = .ok (.invokespecial 25, 3) := by decide +kernel
theorem dX5_init_62 : decode cX5_init 62 = .ok (.putfield 26, 3) := by decide +kernel
theorem dX5_init_65 : decode cX5_init 65 = .ok (.aload_n 0, 1) := by decide +kernel
theorem dX5_init_66 : decode cX5_init 66 = .ok (.new 23, 3) := by decide +kernel
theorem dX5_init_69 : decode cX5_init 69 = .ok (.dup, 1) := by decide +kernel
theorem dX5_init_70 : decode cX5_init 70 = .ok (.invokespecial 25, 3) := by decide +kernel
theorem dX5_init_73 : decode cX5_init 73 = .ok (.putfield 30, 3) := by decide +kernel
theorem dX5_init_76 : decode cX5_init 76 = .ok (.aload_n 0, 1) := by decide +kernel
theorem dX5_init_77 : decode cX5_init 77 = .ok (.iconst 2, 1) := by decide +kernel
theorem dX5_init_78 : decode cX5_init 78 = .ok (.anewarray 23, 3) := by decide +kernel
theorem dX5_init_81 : decode cX5_init 81 = .ok (.putfield 33, 3) := by decide +kernel
theorem dX5_init_84 : decode cX5_init 84 = .ok (.iconst 0, 1) := by decide +kernel
theorem dX5_init_85 : decode cX5_init 85 = .ok (.istore_n 1, 1) := by decide +kernel
theorem dX5_init_86 : decode cX5_init 86 = .ok (.iload_n 1, 1) := by decide +kernel
theorem dX5_init_87 : decode cX5_init 87 = .ok (.aload_n 0, 1) := by decide +kernel
theorem dX5_init_88 : decode cX5_init 88 = .ok (.getfield 33, 3) := by decide +kernel
theorem dX5_init_91 : decode cX5_init 91 = .ok (.arraylength, 1) := by decide +kernel
theorem dX5_init_92 : decode cX5_init 92 = .ok (.if_icmp .ge 22, 3) := by decide +kernel
theorem dX5_init_95 : decode cX5_init 95 = .ok (.aload_n 0, 1) := by decide +kernel
theorem dX5_init_96 : decode cX5_init 96 = .ok (.getfield 33, 3) := by decide +kernel
theorem dX5_init_99 : decode cX5_init 99 = .ok (.iload_n 1, 1) := by decide +kernel
theorem dX5_init_100 : decode cX5_init 100 = .ok (.new 23, 3) := by decide +kernel
theorem dX5_init_103 : decode cX5_init 103 = .ok (.dup, 1) := by decide +kernel
theorem dX5_init_104 : decode cX5_init 104 = .ok (.invokespecial 25, 3) := by decide +kernel
theorem dX5_init_107 : decode cX5_init 107 = .ok (.aastore, 1) := by decide +kernel
theorem dX5_init_108 : decode cX5_init 108 = .ok (.iinc 1 1, 3) := by decide +kernel
theorem dX5_init_111 : decode cX5_init 111 = .ok (.goto (-25), 3) := by decide +kernel
theorem dX5_init_114 : decode cX5_init 114 = .ok (.aload_n 0, 1) := by decide +kernel
theorem dX5_init_115 : decode cX5_init 115 = .ok (.new 37, 3) := by decide +kernel
theorem dX5_init_118 : decode cX5_init 118 = .ok (.dup, 1) := by decide +kernel
theorem dX5_init_119 : decode cX5_init 119 = .ok (.invokespecial 39, 3) := by decide +kernel
theorem dX5_init_122 : decode cX5_init 122 = .ok (.putfield 40, 3) := by decide +kernel
theorem dX5_init_125 : decode cX5_init 125 = .ok (.aload_n 0, 1) := by decide +kernel
theorem dX5_init_126 : decode cX5_init 126 = .ok (.new 44, 3) := by decide +kernel
theorem dX5_init_129 : decode cX5_init 129 = .ok (.dup, 1) := by decide +kernel
theorem dX5_init_130 : decode cX5_init 130 = .ok (.aload_n 0, 1) := by decide +kernel
theorem dX5_init_131 : decode cX5_init 131 = .ok (.getfield 26, 3) := by decide +kernel
theorem dX5_init_134 : decode cX5_init 134 = .ok (.invokespecial 46, 3) := by decide +kernel
theorem dX5_init_137 : decode cX5_init 137 = .ok (.putfield 49, 3) := by decide +kernel
theorem dX5_init_140 : decode cX5_init 140 = .ok (.aload_n 0, 1) := by decide +kernel
theorem dX5_init_141 : decode cX5_init 141 = .ok (.iconst 0, 1) := by decide +kernel
theorem dX5_init_142 : decode cX5_init 142 = .ok (.putfield 53, 3) := by decide +kernel
theorem dX5_init_145 : decode cX5_init 145 = .ok (.aload_n 0, 1) := by decide +kernel
theorem dX5_init_146 : decode cX5_init 146 = .ok (.iconst 0, 1) := by decide +kernel
theorem dX5_init_147 : decode cX5_init 147 = .ok (.putfield 57, 3) := by decide +kernel
theorem dX5_init_150 : decode cX5_init 150 = .ok (.return_, 1) := by decide +kernel
set_option maxRecDepth 20000 in
theorem ggX5_row_X5_rowAt : GoodIn wsX5_row wsX5_rowAt := goodIn_r _ [6, 7, 26, 27, 28, 29, 30, 31, 32, 33, 34] (by decide +kernel) (by decide +kernel)
set_option maxRecDepth 20000 in
theorem gX5_row_X5_rowAt : GoodIn wsX5_row (wsV RX5 60 RX5 yX5_rowAt wsX5_rowAt) := goodIn_app (goodIn_of _ (by decide +kernel)) ggX5_row_X5_rowAt
set_option maxRecDepth 20000 in
theorem ggX5_row_X5_found : GoodIn wsX5_row wsX5_found := goodIn_r _ [11, 12, 13, 26, 27, 28, 29, 30, 31, 32, 33, 34] (by decide +kernel) (by decide +kernel)
set_option maxRecDepth 20000 in
theorem gX5_row_X5_found : GoodIn wsX5_row (wsV RX5 65 RX5 yX5_found wsX5_found) := goodIn_app (goodIn_of _ (by decide +kernel)) ggX5_row_X5_found
set_option maxRecDepth 20000 in
theorem ggX5_row_X3_begin : GoodIn wsX5_row wsX3_begin := goodIn_r _ [17, 18, 19, 20, 21, 35, 36, 37, 38] (by decide +kernel) (by decide +kernel)
set_option maxRecDepth 20000 in
theorem gX5_row_X3_begin_n69 : GoodIn wsX5_row (wsX3_begin) := ggX5_row_X3_begin
set_option maxRecDepth 20000 in
theorem ggX5_row_X5_well : GoodIn wsX5_row wsX5_well := goodIn_r _ [25, 12, 26, 27, 28, 29, 30, 31, 32, 33, 34] (by decide +kernel) (by decide +kernel)
set_option maxRecDepth 20000 in
theorem gX5_row_X5_well : GoodIn wsX5_row (wsV RX5 73 RX5 yX5_well wsX5_well) := goodIn_app (goodIn_of _ (by decide +kernel)) ggX5_row_X5_well
theorem dX5_row_0 : decode cX5_row 0 = .ok (.aload_n 0, 1) := by decide +kernel
theorem dX5_row_1 : decode cX5_row 1 = .ok (.iload_n 1, 1) := by decide +kernel
theorem dX5_row_2 : decode cX5_row 2 = .ok (.invokevirtual 60, 3) := by decide +kernel
theorem dX5_row_5 : decode cX5_row 5 = .ok (.astore 4, 2) := by decide +kernel
theorem dX5_row_7 : decode cX5_row 7 = .ok (.aload 4, 2) := by decide +kernel
theorem dX5_row_9 : decode cX5_row 9 = .ok (.ifnull 18, 3) := by decide +kernel
theorem dX5_row_12 : decode cX5_row 12 = .ok (.iload_n 2, 1) := by decide +kernel
theorem dX5_row_13 : decode cX5_row 13 = .ok (.ifCond .lt 14, 3) := by decide +kernel
theorem dX5_row_16 : decode cX5_row 16 = .ok (.iload_n 2, 1) := by decide +kernel
theorem dX5_row_17 : decode cX5_row 17 = .ok (.iconst 3, 1) := by decide +kernel
theorem dX5_row_18 : decode cX5_row 18 = .ok (.if_icmp .ge 9, 3) := by decide +kernel
theorem dX5_row_21 : decode cX5_row 21 = .ok (.iload_n 3, 1) := by decide +kernel
theorem dX5_row_22 : decode cX5_row 22 = .ok (.bipush 40, 2) := by decide +kernel
theorem dX5_row_24 : decode cX5_row 24 = .ok (.if_icmp .le 6, 3) := by decide +kernel
theorem dX5_row_27 : decode cX5_row 27 = .ok (.ldc 64, 2) := by decide +kernel
theorem dX5_row_29 : decode cX5_row 29 = .ok (.ireturn, 1) := by decide +kernel
theorem dX5_row_30 : decode cX5_row 30 = .ok (.iload_n 3, 1) := by decide +kernel
theorem dX5_row_31 : decode cX5_row 31 = .ok (.ifCond .ge 9, 3) := by decide +kernel
theorem dX5_row_34 : decode cX5_row 34 = .ok (.aload_n 0, 1) := by decide +kernel
theorem dX5_row_35 : decode cX5_row 35 = .ok (.iconst 4, 1) := by decide +kernel
theorem dX5_row_36 : decode cX5_row 36 = .ok (.invokevirtual 65, 3) := by decide +kernel
theorem dX5_row_39 : decode cX5_row 39 = .ok (.ireturn, 1) := by decide +kernel
theorem dX5_row_40 : decode cX5_row 40 = .ok (.aload 4, 2) := by decide +kernel
theorem dX5_row_42 : decode cX5_row 42 = .ok (.iload_n 2, 1) := by decide +kernel
theorem dX5_row_43 : decode cX5_row 43 = .ok (.iload_n 3, 1) := by decide +kernel
theorem dX5_row_44 : decode cX5_row 44 = .ok (.invokevirtual 69, 3) := by decide +kernel
theorem dX5_row_47 : decode cX5_row 47 = .ok (.aload_n 0, 1) := by decide +kernel
theorem dX5_row_48 : decode cX5_row 48 = .ok (.iload_n 3, 1) := by decide +kernel
theorem dX5_row_49 : decode cX5_row 49 = .ok (.invokevirtual 73, 3) := by decide +kernel
theorem dX5_row_52 : decode cX5_row 52 = .ok (.ireturn, 1) := by decide +kernel
set_option maxRecDepth 20000 in
theorem ggX5_set_X5_rowAt : GoodIn wsX5_set wsX5_rowAt := goodIn_r _ [6, 7, 39, 40, 41, 42, 43, 44, 45, 46, 47] (by decide +kernel) (by decide +kernel)
set_option maxRecDepth 20000 in
theorem gX5_set_X5_rowAt : GoodIn wsX5_set (wsV RX5 60 RX5 yX5_rowAt wsX5_rowAt) := goodIn_app (goodIn_of _ (by decide +kernel)) ggX5_set_X5_rowAt
set_option maxRecDepth 20000 in
theorem ggX5_set_X5_found : GoodIn wsX5_set wsX5_found := goodIn_r _ [11, 12, 13, 39, 40, 41, 42, 43, 44, 45, 46, 47] (by decide +kernel) (by decide +kernel)
set_option maxRecDepth 20000 in
theorem gX5_set_X5_found : GoodIn wsX5_set (wsV RX5 65 RX5 yX5_found wsX5_found) := goodIn_app (goodIn_of _ (by decide +kernel)) ggX5_set_X5_found
set_option maxRecDepth 20000 in
theorem ggX5_set_X3_holds : GoodIn wsX5_set wsX3_holds := goodIn_r _ [17, 18, 35, 36, 37, 38] (by decide +kernel) (by decide +kernel)
set_option maxRecDepth 20000 in
theorem gX5_set_X3_holds_n80 : GoodIn wsX5_set (wsX3_holds) := ggX5_set_X3_holds
set_option maxRecDepth 20000 in
theorem ggX5_set_X3_write : GoodIn wsX5_set wsX3_write := goodIn_r _ [21, 22, 23, 24, 5, 25, 35, 36, 37, 38] (by decide +kernel) (by decide +kernel)
set_option maxRecDepth 20000 in
theorem gX5_set_X3_write_n84 : GoodIn wsX5_set (wsX3_write) := ggX5_set_X3_write
set_option maxRecDepth 20000 in
theorem ggX5_set_X3_item : GoodIn wsX5_set wsX3_item := goodIn_r _ [28, 23, 29, 5, 30, 35, 36, 37, 38] (by decide +kernel) (by decide +kernel)
set_option maxRecDepth 20000 in
theorem gX5_set_X3_item_n87 : GoodIn wsX5_set (wsX3_item) := ggX5_set_X3_item
set_option maxRecDepth 20000 in
theorem ggX5_set_X5_well : GoodIn wsX5_set wsX5_well := goodIn_r _ [34, 12, 39, 40, 41, 42, 43, 44, 45, 46, 47] (by decide +kernel) (by decide +kernel)
set_option maxRecDepth 20000 in
theorem gX5_set_X5_well : GoodIn wsX5_set (wsV RX5 73 RX5 yX5_well wsX5_well) := goodIn_app (goodIn_of _ (by decide +kernel)) ggX5_set_X5_well
theorem dX5_set_0 : decode cX5_set 0 = .ok (.aload_n 0, 1) := by decide +kernel
theorem dX5_set_1 : decode cX5_set 1 = .ok (.iload_n 1, 1) := by decide +kernel
theorem dX5_set_2 : decode cX5_set 2 = .ok (.invokevirtual 60, 3) := by decide +kernel
theorem dX5_set_5 : decode cX5_set 5 = .ok (.astore 4, 2) := by decide +kernel
theorem dX5_set_7 : decode cX5_set 7 = .ok (.aload 4, 2) := by decide +kernel
theorem dX5_set_9 : decode cX5_set 9 = .ok (.ifnonnull 6, 3) := by decide +kernel
theorem dX5_set_12 : decode cX5_set 12 = .ok (.ldc 64, 2) := by decide +kernel
theorem dX5_set_14 : decode cX5_set 14 = .ok (.ireturn, 1) := by decide +kernel
theorem dX5_set_15 : decode cX5_set 15 = .ok (.aload 4, 2) := by decide +kernel
theorem dX5_set_17 : decode cX5_set 17 = .ok (.getfield 76, 3) := by decide +kernel
theorem dX5_set_20 : decode cX5_set 20 = .ok (.ifCond .ne 9, 3) := by decide +kernel
theorem dX5_set_23 : decode cX5_set 23 = .ok (.aload_n 0, 1) := by decide +kernel
theorem dX5_set_24 : decode cX5_set 24 = .ok (.iconst 1, 1) := by decide +kernel
theorem dX5_set_25 : decode cX5_set 25 = .ok (.invokevirtual 65, 3) := by decide +kernel
theorem dX5_set_28 : decode cX5_set 28 = .ok (.ireturn, 1) := by decide +kernel
theorem dX5_set_29 : decode cX5_set 29 = .ok (.aload 4, 2) := by decide +kernel
theorem dX5_set_31 : decode cX5_set 31 = .ok (.iload_n 2, 1) := by decide +kernel
theorem dX5_set_32 : decode cX5_set 32 = .ok (.iconst 1, 1) := by decide +kernel
theorem dX5_set_33 : decode cX5_set 33 = .ok (.invokevirtual 80, 3) := by decide +kernel
theorem dX5_set_36 : decode cX5_set 36 = .ok (.ifCond .ne 9, 3) := by decide +kernel
theorem dX5_set_39 : decode cX5_set 39 = .ok (.aload_n 0, 1) := by decide +kernel
theorem dX5_set_40 : decode cX5_set 40 = .ok (.iconst 2, 1) := by decide +kernel
theorem dX5_set_41 : decode cX5_set 41 = .ok (.invokevirtual 65, 3) := by decide +kernel
theorem dX5_set_44 : decode cX5_set 44 = .ok (.ireturn, 1) := by decide +kernel
theorem dX5_set_45 : decode cX5_set 45 = .ok (.aload 4, 2) := by decide +kernel
theorem dX5_set_47 : decode cX5_set 47 = .ok (.iload_n 2, 1) := by decide +kernel
theorem dX5_set_48 : decode cX5_set 48 = .ok (.iload_n 3, 1) := by decide +kernel
theorem dX5_set_49 : decode cX5_set 49 = .ok (.invokevirtual 84, 3) := by decide +kernel
theorem dX5_set_52 : decode cX5_set 52 = .ok (.aload_n 0, 1) := by decide +kernel
theorem dX5_set_53 : decode cX5_set 53 = .ok (.aload 4, 2) := by decide +kernel
theorem dX5_set_55 : decode cX5_set 55 = .ok (.iload_n 2, 1) := by decide +kernel
theorem dX5_set_56 : decode cX5_set 56 = .ok (.invokevirtual 87, 3) := by decide +kernel
theorem dX5_set_59 : decode cX5_set 59 = .ok (.invokevirtual 73, 3) := by decide +kernel
theorem dX5_set_62 : decode cX5_set 62 = .ok (.ireturn, 1) := by decide +kernel
set_option maxRecDepth 20000 in
theorem ggX5_copy_X5_rowAt : GoodIn wsX5_copy wsX5_rowAt := goodIn_r _ [6, 7, 36, 37, 38, 39, 40, 41, 42, 43, 44] (by decide +kernel) (by decide +kernel)
set_option maxRecDepth 20000 in
theorem gX5_copy_X5_rowAt : GoodIn wsX5_copy (wsV RX5 60 RX5 yX5_rowAt wsX5_rowAt) := goodIn_app (goodIn_of _ (by decide +kernel)) ggX5_copy_X5_rowAt
set_option maxRecDepth 20000 in
theorem ggX5_copy_X5_found : GoodIn wsX5_copy wsX5_found := goodIn_r _ [11, 12, 13, 36, 37, 38, 39, 40, 41, 42, 43, 44] (by decide +kernel) (by decide +kernel)
set_option maxRecDepth 20000 in
theorem gX5_copy_X5_found : GoodIn wsX5_copy (wsV RX5 65 RX5 yX5_found wsX5_found) := goodIn_app (goodIn_of _ (by decide +kernel)) ggX5_copy_X5_found
set_option maxRecDepth 20000 in
theorem ggX5_copy_X3_holds : GoodIn wsX5_copy wsX3_holds := goodIn_r _ [17, 18, 32, 33, 34, 35] (by decide +kernel) (by decide +kernel)
set_option maxRecDepth 20000 in
theorem gX5_copy_X3_holds_n80 : GoodIn wsX5_copy (wsX3_holds) := ggX5_copy_X3_holds
set_option maxRecDepth 20000 in
theorem ggX5_copy_X3_takeFrom : GoodIn wsX5_copy wsX3_takeFrom := goodIn_r _ [21, 22, 23, 24, 25, 26, 27, 14, 16, 15, 17, 18, 32, 33, 34, 35] (by decide +kernel) (by decide +kernel)
set_option maxRecDepth 20000 in
theorem gX5_copy_X3_takeFrom_n93 : GoodIn wsX5_copy (wsX3_takeFrom) := ggX5_copy_X3_takeFrom
set_option maxRecDepth 20000 in
theorem ggX5_copy_X5_well : GoodIn wsX5_copy wsX5_well := goodIn_r _ [31, 12, 36, 37, 38, 39, 40, 41, 42, 43, 44] (by decide +kernel) (by decide +kernel)
set_option maxRecDepth 20000 in
theorem gX5_copy_X5_well : GoodIn wsX5_copy (wsV RX5 73 RX5 yX5_well wsX5_well) := goodIn_app (goodIn_of _ (by decide +kernel)) ggX5_copy_X5_well
theorem dX5_copy_0 : decode cX5_copy 0 = .ok (.aload_n 0, 1) := by decide +kernel
theorem dX5_copy_1 : decode cX5_copy 1 = .ok (.iload_n 1, 1) := by decide +kernel
theorem dX5_copy_2 : decode cX5_copy 2 = .ok (.invokevirtual 60, 3) := by decide +kernel
theorem dX5_copy_5 : decode cX5_copy 5 = .ok (.astore 6, 2) := by decide +kernel
theorem dX5_copy_7 : decode cX5_copy 7 = .ok (.aload_n 0, 1) := by decide +kernel
theorem dX5_copy_8 : decode cX5_copy 8 = .ok (.iload_n 3, 1) := by decide +kernel
theorem dX5_copy_9 : decode cX5_copy 9 = .ok (.invokevirtual 60, 3) := by decide +kernel
theorem dX5_copy_12 : decode cX5_copy 12 = .ok (.astore 7, 2) := by decide +kernel
theorem dX5_copy_14 : decode cX5_copy 14 = .ok (.aload 6, 2) := by decide +kernel
theorem dX5_copy_16 : decode cX5_copy 16 = .ok (.ifnull 8, 3) := by decide +kernel
theorem dX5_copy_19 : decode cX5_copy 19 = .ok (.aload 7, 2) := by decide +kernel
theorem dX5_copy_21 : decode cX5_copy 21 = .ok (.ifnonnull 6, 3) := by decide +kernel
theorem dX5_copy_24 : decode cX5_copy 24 = .ok (.ldc 64, 2) := by decide +kernel
theorem dX5_copy_26 : decode cX5_copy 26 = .ok (.ireturn, 1) := by decide +kernel
theorem dX5_copy_27 : decode cX5_copy 27 = .ok (.aload 6, 2) := by decide +kernel
theorem dX5_copy_29 : decode cX5_copy 29 = .ok (.getfield 76, 3) := by decide +kernel
theorem dX5_copy_32 : decode cX5_copy 32 = .ok (.ifCond .eq 11, 3) := by decide +kernel
theorem dX5_copy_35 : decode cX5_copy 35 = .ok (.aload 7, 2) := by decide +kernel
theorem dX5_copy_37 : decode cX5_copy 37 = .ok (.getfield 76, 3) := by decide +kernel
theorem dX5_copy_40 : decode cX5_copy 40 = .ok (.ifCond .ne 9, 3) := by decide +kernel
theorem dX5_copy_43 : decode cX5_copy 43 = .ok (.aload_n 0, 1) := by decide +kernel
theorem dX5_copy_44 : decode cX5_copy 44 = .ok (.iconst 1, 1) := by decide +kernel
theorem dX5_copy_45 : decode cX5_copy 45 = .ok (.invokevirtual 65, 3) := by decide +kernel
theorem dX5_copy_48 : decode cX5_copy 48 = .ok (.ireturn, 1) := by decide +kernel
theorem dX5_copy_49 : decode cX5_copy 49 = .ok (.aload 6, 2) := by decide +kernel
theorem dX5_copy_51 : decode cX5_copy 51 = .ok (.getfield 90, 3) := by decide +kernel
theorem dX5_copy_54 : decode cX5_copy 54 = .ok (.aload 7, 2) := by decide +kernel
theorem dX5_copy_56 : decode cX5_copy 56 = .ok (.getfield 90, 3) := by decide +kernel
theorem dX5_copy_59 : decode cX5_copy 59 = .ok (.if_icmp .eq 9, 3) := by decide +kernel
theorem dX5_copy_62 : decode cX5_copy 62 = .ok (.aload_n 0, 1) := by decide +kernel
theorem dX5_copy_63 : decode cX5_copy 63 = .ok (.iconst 5, 1) := by decide +kernel
theorem dX5_copy_64 : decode cX5_copy 64 = .ok (.invokevirtual 65, 3) := by decide +kernel
theorem dX5_copy_67 : decode cX5_copy 67 = .ok (.ireturn, 1) := by decide +kernel
theorem dX5_copy_68 : decode cX5_copy 68 = .ok (.aload 6, 2) := by decide +kernel
theorem dX5_copy_70 : decode cX5_copy 70 = .ok (.iload_n 2, 1) := by decide +kernel
theorem dX5_copy_71 : decode cX5_copy 71 = .ok (.iload 5, 2) := by decide +kernel
theorem dX5_copy_73 : decode cX5_copy 73 = .ok (.invokevirtual 80, 3) := by decide +kernel
theorem dX5_copy_76 : decode cX5_copy 76 = .ok (.ifCond .eq 15, 3) := by decide +kernel
theorem dX5_copy_79 : decode cX5_copy 79 = .ok (.aload 7, 2) := by decide +kernel
theorem dX5_copy_81 : decode cX5_copy 81 = .ok (.iload 4, 2) := by decide +kernel
theorem dX5_copy_83 : decode cX5_copy 83 = .ok (.iload 5, 2) := by decide +kernel
theorem dX5_copy_85 : decode cX5_copy 85 = .ok (.invokevirtual 80, 3) := by decide +kernel
theorem dX5_copy_88 : decode cX5_copy 88 = .ok (.ifCond .ne 9, 3) := by decide +kernel
theorem dX5_copy_91 : decode cX5_copy 91 = .ok (.aload_n 0, 1) := by decide +kernel
theorem dX5_copy_92 : decode cX5_copy 92 = .ok (.iconst 2, 1) := by decide +kernel
theorem dX5_copy_93 : decode cX5_copy 93 = .ok (.invokevirtual 65, 3) := by decide +kernel
theorem dX5_copy_96 : decode cX5_copy 96 = .ok (.ireturn, 1) := by decide +kernel
theorem dX5_copy_97 : decode cX5_copy 97 = .ok (.aload 7, 2) := by decide +kernel
theorem dX5_copy_99 : decode cX5_copy 99 = .ok (.aload 6, 2) := by decide +kernel
theorem dX5_copy_101 : decode cX5_copy 101 = .ok (.iload_n 2, 1) := by decide +kernel
theorem dX5_copy_102 : decode cX5_copy 102 = .ok (.iload 4, 2) := by decide +kernel
theorem dX5_copy_104 : decode cX5_copy 104 = .ok (.iload 5, 2) := by decide +kernel
theorem dX5_copy_106 : decode cX5_copy 106 = .ok (.invokevirtual 93, 3) := by decide +kernel
theorem dX5_copy_109 : decode cX5_copy 109 = .ok (.aload_n 0, 1) := by decide +kernel
theorem dX5_copy_110 : decode cX5_copy 110 = .ok (.iload 5, 2) := by decide +kernel
theorem dX5_copy_112 : decode cX5_copy 112 = .ok (.invokevirtual 73, 3) := by decide +kernel
theorem dX5_copy_115 : decode cX5_copy 115 = .ok (.ireturn, 1) := by decide +kernel
set_option maxRecDepth 20000 in
theorem ggX5_drop_X5_rowAt : GoodIn wsX5_drop wsX5_rowAt := goodIn_r _ [6, 7, 22, 23, 24, 25, 26, 27, 28, 29, 30] (by decide +kernel) (by decide +kernel)
set_option maxRecDepth 20000 in
theorem gX5_drop_X5_rowAt : GoodIn wsX5_drop (wsV RX5 60 RX5 yX5_rowAt wsX5_rowAt) := goodIn_app (goodIn_of _ (by decide +kernel)) ggX5_drop_X5_rowAt
set_option maxRecDepth 20000 in
theorem ggX5_drop_X5_found : GoodIn wsX5_drop wsX5_found := goodIn_r _ [11, 12, 13, 22, 23, 24, 25, 26, 27, 28, 29, 30] (by decide +kernel) (by decide +kernel)
set_option maxRecDepth 20000 in
theorem gX5_drop_X5_found : GoodIn wsX5_drop (wsV RX5 65 RX5 yX5_found wsX5_found) := goodIn_app (goodIn_of _ (by decide +kernel)) ggX5_drop_X5_found
set_option maxRecDepth 20000 in
theorem ggX5_drop_X5_well : GoodIn wsX5_drop wsX5_well := goodIn_r _ [17, 12, 22, 23, 24, 25, 26, 27, 28, 29, 30] (by decide +kernel) (by decide +kernel)
set_option maxRecDepth 20000 in
theorem gX5_drop_X5_well : GoodIn wsX5_drop (wsV RX5 73 RX5 yX5_well wsX5_well) := goodIn_app (goodIn_of _ (by decide +kernel)) ggX5_drop_X5_well
theorem dX5_drop_0 : decode cX5_drop 0 = .ok (.aload_n 0, 1) := by decide +kernel
theorem dX5_drop_1 : decode cX5_drop 1 = .ok (.iload_n 1, 1) := by decide +kernel
theorem dX5_drop_2 : decode cX5_drop 2 = .ok (.invokevirtual 60, 3) := by decide +kernel
theorem dX5_drop_5 : decode cX5_drop 5 = .ok (.astore_n 2, 1) := by decide +kernel
theorem dX5_drop_6 : decode cX5_drop 6 = .ok (.aload_n 2, 1) := by decide +kernel
theorem dX5_drop_7 : decode cX5_drop 7 = .ok (.ifnonnull 6, 3) := by decide +kernel
theorem dX5_drop_10 : decode cX5_drop 10 = .ok (.ldc 64, 2) := by decide +kernel
theorem dX5_drop_12 : decode cX5_drop 12 = .ok (.ireturn, 1) := by decide +kernel
theorem dX5_drop_13 : decode cX5_drop 13 = .ok (.aload_n 2, 1) := by decide +kernel
theorem dX5_drop_14 : decode cX5_drop 14 = .ok (.getfield 76, 3) := by decide +kernel
theorem dX5_drop_17 : decode cX5_drop 17 = .ok (.ifCond .ne 9, 3) := by decide +kernel
theorem dX5_drop_20 : decode cX5_drop 20 = .ok (.aload_n 0, 1) := by decide +kernel
theorem dX5_drop_21 : decode cX5_drop 21 = .ok (.iconst 1, 1) := by decide +kernel
theorem dX5_drop_22 : decode cX5_drop 22 = .ok (.invokevirtual 65, 3) := by decide +kernel
theorem dX5_drop_25 : decode cX5_drop 25 = .ok (.ireturn, 1) := by decide +kernel
theorem dX5_drop_26 : decode cX5_drop 26 = .ok (.aload_n 2, 1) := by decide +kernel
theorem dX5_drop_27 : decode cX5_drop 27 = .ok (.iconst 0, 1) := by decide +kernel
theorem dX5_drop_28 : decode cX5_drop 28 = .ok (.putfield 76, 3) := by decide +kernel
theorem dX5_drop_31 : decode cX5_drop 31 = .ok (.aload_n 0, 1) := by decide +kernel
theorem dX5_drop_32 : decode cX5_drop 32 = .ok (.aload_n 2, 1) := by decide +kernel
theorem dX5_drop_33 : decode cX5_drop 33 = .ok (.getfield 97, 3) := by decide +kernel
theorem dX5_drop_36 : decode cX5_drop 36 = .ok (.invokevirtual 73, 3) := by decide +kernel
theorem dX5_drop_39 : decode cX5_drop 39 = .ok (.ireturn, 1) := by decide +kernel
set_option maxRecDepth 20000 in
theorem ggX5_feed_X2_append : GoodIn wsX5_feed wsX2_append := goodIn_r _ [7, 8, 9, 10, 11, 12, 22, 23, 24, 25, 26, 27] (by decide +kernel) (by decide +kernel)
set_option maxRecDepth 20000 in
theorem gX5_feed_X2_append_n102 : GoodIn wsX5_feed (wsX2_append) := ggX5_feed_X2_append
theorem dX5_feed_0 : decode cX5_feed 0 = .ok (.iload_n 1, 1) := by decide +kernel
theorem dX5_feed_1 : decode cX5_feed 1 = .ok (.ifCond .lt 10, 3) := by decide +kernel
theorem dX5_feed_4 : decode cX5_feed 4 = .ok (.iload_n 1, 1) := by decide +kernel
theorem dX5_feed_5 : decode cX5_feed 5 = .ok (.sipush 255, 3) := by decide +kernel
theorem dX5_feed_8 : decode cX5_feed 8 = .ok (.if_icmp .le 6, 3) := by decide +kernel
theorem dX5_feed_11 : decode cX5_feed 11 = .ok (.ldc 64, 2) := by decide +kernel
theorem dX5_feed_13 : decode cX5_feed 13 = .ok (.ireturn, 1) := by decide +kernel
theorem dX5_feed_14 : decode cX5_feed 14 = .ok (.aload_n 0, 1) := by decide +kernel
theorem dX5_feed_15 : decode cX5_feed 15 = .ok (.getfield 19, 3) := by decide +kernel
theorem dX5_feed_18 : decode cX5_feed 18 = .ok (.getfield 100, 3) := by decide +kernel
theorem dX5_feed_21 : decode cX5_feed 21 = .ok (.bipush 120, 2) := by decide +kernel
theorem dX5_feed_23 : decode cX5_feed 23 = .ok (.if_icmp .lt 6, 3) := by decide +kernel
theorem dX5_feed_26 : decode cX5_feed 26 = .ok (.ldc 101, 2) := by decide +kernel
theorem dX5_feed_28 : decode cX5_feed 28 = .ok (.ireturn, 1) := by decide +kernel
theorem dX5_feed_29 : decode cX5_feed 29 = .ok (.aload_n 0, 1) := by decide +kernel
theorem dX5_feed_30 : decode cX5_feed 30 = .ok (.getfield 19, 3) := by decide +kernel
theorem dX5_feed_33 : decode cX5_feed 33 = .ok (.iload_n 1, 1) := by decide +kernel
theorem dX5_feed_34 : decode cX5_feed 34 = .ok (.invokevirtual 102, 3) := by decide +kernel
theorem dX5_feed_37 : decode cX5_feed 37 = .ok (.aload_n 0, 1) := by decide +kernel
theorem dX5_feed_38 : decode cX5_feed 38 = .ok (.getfield 19, 3) := by decide +kernel
theorem dX5_feed_41 : decode cX5_feed 41 = .ok (.getfield 100, 3) := by decide +kernel
theorem dX5_feed_44 : decode cX5_feed 44 = .ok (.ireturn, 1) := by decide +kernel
set_option maxRecDepth 20000 in
theorem ggX5_table_X2_readInto : GoodIn wsX5_table wsX2_readInto := goodIn_r _ [10, 11, 12, 13, 14, 15, 8, 16, 17, 18, 19, 20, 21, 22, 23, 24, 25, 26, 27, 28, 29, 30, 31, 32, 33, 34, 35, 36, 37, 38, 39, 40, 41, 42, 43, 44, 45, 46, 47, 48, 49, 50, 51, 52, 53, 54, 55, 56, 57, 58, 59, 60, 61, 62, 63, 64, 65, 66, 67, 68, 69, 70, 71, 72, 90, 91, 92, 93, 94, 95, 96, 97, 98, 99, 100, 101, 102, 103] (by decide +kernel) (by decide +kernel)
set_option maxRecDepth 20000 in
theorem gX5_table_X2_readInto_n106 : GoodIn wsX5_table (wsX2_readInto) := ggX5_table_X2_readInto
set_option maxRecDepth 20000 in
theorem ggX5_table_X4_become : GoodIn wsX5_table wsX4_become := goodIn_r _ [75, 68, 69, 70, 46, 47, 48, 49, 50, 25, 26, 27, 71, 72, 96, 97, 98, 99, 100, 101, 102, 103] (by decide +kernel) (by decide +kernel)
set_option maxRecDepth 20000 in
theorem gX5_table_X4_become_n114 : GoodIn wsX5_table (wsX4_become) := ggX5_table_X4_become
set_option maxRecDepth 20000 in
theorem ggX5_table_X0_forgetAll : GoodIn wsX5_table wsX0_forgetAll := goodIn_r _ [79, 80, 104, 105] (by decide +kernel) (by decide +kernel)
set_option maxRecDepth 20000 in
theorem gX5_table_X0_forgetAll_n117 : GoodIn wsX5_table (wsX0_forgetAll) := ggX5_table_X0_forgetAll
theorem dX5_table_0 : decode cX5_table 0 = .ok (.aload_n 0, 1) := by decide +kernel
theorem dX5_table_1 : decode cX5_table 1 = .ok (.getfield 19, 3) := by decide +kernel
theorem dX5_table_4 : decode cX5_table 4 = .ok (.aload_n 0, 1) := by decide +kernel
theorem dX5_table_5 : decode cX5_table 5 = .ok (.getfield 30, 3) := by decide +kernel
theorem dX5_table_8 : decode cX5_table 8 = .ok (.invokevirtual 106, 3) := by decide +kernel
theorem dX5_table_11 : decode cX5_table 11 = .ok (.istore_n 1, 1) := by decide +kernel
theorem dX5_table_12 : decode cX5_table 12 = .ok (.aload_n 0, 1) := by decide +kernel
theorem dX5_table_13 : decode cX5_table 13 = .ok (.getfield 19, 3) := by decide +kernel
theorem dX5_table_16 : decode cX5_table 16 = .ok (.iconst 0, 1) := by decide +kernel
theorem dX5_table_17 : decode cX5_table 17 = .ok (.putfield 100, 3) := by decide +kernel
theorem dX5_table_20 : decode cX5_table 20 = .ok (.iload_n 1, 1) := by decide +kernel
theorem dX5_table_21 : decode cX5_table 21 = .ok (.ifCond .eq 19, 3) := by decide +kernel
theorem dX5_table_24 : decode cX5_table 24 = .ok (.aload_n 0, 1) := by decide +kernel
theorem dX5_table_25 : decode cX5_table 25 = .ok (.iload_n 1, 1) := by decide +kernel
theorem dX5_table_26 : decode cX5_table 26 = .ok (.putfield 53, 3) := by decide +kernel
theorem dX5_table_29 : decode cX5_table 29 = .ok (.ldc 110, 2) := by decide +kernel
theorem dX5_table_31 : decode cX5_table 31 = .ok (.aload_n 0, 1) := by decide +kernel
theorem dX5_table_32 : decode cX5_table 32 = .ok (.getfield 19, 3) := by decide +kernel
theorem dX5_table_35 : decode cX5_table 35 = .ok (.getfield 111, 3) := by decide +kernel
theorem dX5_table_38 : decode cX5_table 38 = .ok (.isub, 1) := by decide +kernel
theorem dX5_table_39 : decode cX5_table 39 = .ok (.ireturn, 1) := by decide +kernel
theorem dX5_table_40 : decode cX5_table 40 = .ok (.aload_n 0, 1) := by decide +kernel
theorem dX5_table_41 : decode cX5_table 41 = .ok (.getfield 26, 3) := by decide +kernel
theorem dX5_table_44 : decode cX5_table 44 = .ok (.aload_n 0, 1) := by decide +kernel
theorem dX5_table_45 : decode cX5_table 45 = .ok (.getfield 30, 3) := by decide +kernel
theorem dX5_table_48 : decode cX5_table 48 = .ok (.invokevirtual 114, 3) := by decide +kernel
theorem dX5_table_51 : decode cX5_table 51 = .ok (.aload_n 0, 1) := by decide +kernel
theorem dX5_table_52 : decode cX5_table 52 = .ok (.getfield 40, 3) := by decide +kernel
theorem dX5_table_55 : decode cX5_table 55 = .ok (.invokevirtual 117, 3) := by decide +kernel
theorem dX5_table_58 : decode cX5_table 58 = .ok (.aload_n 0, 1) := by decide +kernel
theorem dX5_table_59 : decode cX5_table 59 = .ok (.getfield 26, 3) := by decide +kernel
theorem dX5_table_62 : decode cX5_table 62 = .ok (.getfield 120, 3) := by decide +kernel
theorem dX5_table_65 : decode cX5_table 65 = .ok (.ireturn, 1) := by decide +kernel
theorem dX5_fault_0 : decode cX5_fault 0 = .ok (.aload_n 0, 1) := by decide +kernel
theorem dX5_fault_1 : decode cX5_fault 1 = .ok (.getfield 53, 3) := by decide +kernel
theorem dX5_fault_4 : decode cX5_fault 4 = .ok (.ireturn, 1) := by decide +kernel
set_option maxRecDepth 20000 in
theorem ggX5_away_X4_isPerson : GoodIn wsX5_away wsX4_isPerson := goodIn_r _ [8, 9, 37, 38, 39, 40, 41, 42, 43, 44] (by decide +kernel) (by decide +kernel)
set_option maxRecDepth 20000 in
theorem gX5_away_X4_isPerson_n123 : GoodIn wsX5_away (wsX4_isPerson) := ggX5_away_X4_isPerson
set_option maxRecDepth 20000 in
theorem ggX5_away_X5_isZeroOrOne : GoodIn wsX5_away wsX5_isZeroOrOne := goodIn_r _ [13] (by decide +kernel) (by decide +kernel)
set_option maxRecDepth 20000 in
theorem gX5_away_X5_isZeroOrOne : GoodIn wsX5_away (va_wsS RX5 127 yX5_isZeroOrOne wsX5_isZeroOrOne) := goodIn_app (goodIn_of _ (by decide +kernel)) ggX5_away_X5_isZeroOrOne
set_option maxRecDepth 20000 in
theorem ggX5_away_X0_keep : GoodIn wsX5_away wsX0_keep := goodIn_r _ [17, 18, 19, 20, 21, 22, 15, 23, 24, 12, 25, 26, 27, 45, 46] (by decide +kernel) (by decide +kernel)
set_option maxRecDepth 20000 in
theorem gX5_away_X0_keep_n134 : GoodIn wsX5_away (wsX0_keep) := ggX5_away_X0_keep
theorem dX5_away_0 : decode cX5_away 0 = .ok (.aload_n 0, 1) := by decide +kernel
theorem dX5_away_1 : decode cX5_away 1 = .ok (.getfield 26, 3) := by decide +kernel
theorem dX5_away_4 : decode cX5_away 4 = .ok (.iload_n 1, 1) := by decide +kernel
theorem dX5_away_5 : decode cX5_away 5 = .ok (.invokevirtual 123, 3) := by decide +kernel
theorem dX5_away_8 : decode cX5_away 8 = .ok (.ifCond .eq 10, 3) := by decide +kernel
theorem dX5_away_11 : decode cX5_away 11 = .ok (.iload_n 2, 1) := by decide +kernel
theorem dX5_away_12 : decode cX5_away 12 = .ok (.invokestatic 127, 3) := by decide +kernel
theorem dX5_away_15 : decode cX5_away 15 = .ok (.ifCond .ne 6, 3) := by decide +kernel
theorem dX5_away_18 : decode cX5_away 18 = .ok (.ldc 64, 2) := by decide +kernel
theorem dX5_away_20 : decode cX5_away 20 = .ok (.ireturn, 1) := by decide +kernel
theorem dX5_away_21 : decode cX5_away 21 = .ok (.aload_n 0, 1) := by decide +kernel
theorem dX5_away_22 : decode cX5_away 22 = .ok (.getfield 26, 3) := by decide +kernel
theorem dX5_away_25 : decode cX5_away 25 = .ok (.getfield 130, 3) := by decide +kernel
theorem dX5_away_28 : decode cX5_away 28 = .ok (.istore_n 3, 1) := by decide +kernel
theorem dX5_away_29 : decode cX5_away 29 = .ok (.iload_n 2, 1) := by decide +kernel
theorem dX5_away_30 : decode cX5_away 30 = .ok (.iconst 1, 1) := by decide +kernel
theorem dX5_away_31 : decode cX5_away 31 = .ok (.if_icmp .ne 11, 3) := by decide +kernel
theorem dX5_away_34 : decode cX5_away 34 = .ok (.iload_n 3, 1) := by decide +kernel
theorem dX5_away_35 : decode cX5_away 35 = .ok (.iconst 1, 1) := by decide +kernel
theorem dX5_away_36 : decode cX5_away 36 = .ok (.iload_n 1, 1) := by decide +kernel
theorem dX5_away_37 : decode cX5_away 37 = .ok (.ishl, 1) := by decide +kernel
theorem dX5_away_38 : decode cX5_away 38 = .ok (.ior, 1) := by decide +kernel
theorem dX5_away_39 : decode cX5_away 39 = .ok (.goto 10, 3) := by decide +kernel
theorem dX5_away_42 : decode cX5_away 42 = .ok (.iload_n 3, 1) := by decide +kernel
theorem dX5_away_43 : decode cX5_away 43 = .ok (.iconst 1, 1) := by decide +kernel
theorem dX5_away_44 : decode cX5_away 44 = .ok (.iload_n 1, 1) := by decide +kernel
theorem dX5_away_45 : decode cX5_away 45 = .ok (.ishl, 1) := by decide +kernel
theorem dX5_away_46 : decode cX5_away 46 = .ok (.iconst (-1), 1) := by decide +kernel
theorem dX5_away_47 : decode cX5_away 47 = .ok (.ixor, 1) := by decide +kernel
theorem dX5_away_48 : decode cX5_away 48 = .ok (.iand, 1) := by decide +kernel
theorem dX5_away_49 : decode cX5_away 49 = .ok (.istore 4, 2) := by decide +kernel
theorem dX5_away_51 : decode cX5_away 51 = .ok (.iload 4, 2) := by decide +kernel
theorem dX5_away_53 : decode cX5_away 53 = .ok (.iload_n 3, 1) := by decide +kernel
theorem dX5_away_54 : decode cX5_away 54 = .ok (.if_icmp .ne 6, 3) := by decide +kernel
theorem dX5_away_57 : decode cX5_away 57 = .ok (.ldc 133, 2) := by decide +kernel
theorem dX5_away_59 : decode cX5_away 59 = .ok (.ireturn, 1) := by decide +kernel
theorem dX5_away_60 : decode cX5_away 60 = .ok (.aload_n 0, 1) := by decide +kernel
theorem dX5_away_61 : decode cX5_away 61 = .ok (.getfield 40, 3) := by decide +kernel
theorem dX5_away_64 : decode cX5_away 64 = .ok (.iconst 0, 1) := by decide +kernel
theorem dX5_away_65 : decode cX5_away 65 = .ok (.iload_n 3, 1) := by decide +kernel
theorem dX5_away_66 : decode cX5_away 66 = .ok (.iconst 0, 1) := by decide +kernel
theorem dX5_away_67 : decode cX5_away 67 = .ok (.iconst 0, 1) := by decide +kernel
theorem dX5_away_68 : decode cX5_away 68 = .ok (.invokevirtual 134, 3) := by decide +kernel
theorem dX5_away_71 : decode cX5_away 71 = .ok (.aload_n 0, 1) := by decide +kernel
theorem dX5_away_72 : decode cX5_away 72 = .ok (.getfield 26, 3) := by decide +kernel
theorem dX5_away_75 : decode cX5_away 75 = .ok (.iload 4, 2) := by decide +kernel
theorem dX5_away_77 : decode cX5_away 77 = .ok (.putfield 130, 3) := by decide +kernel
theorem dX5_away_80 : decode cX5_away 80 = .ok (.iload 4, 2) := by decide +kernel
theorem dX5_away_82 : decode cX5_away 82 = .ok (.ireturn, 1) := by decide +kernel
set_option maxRecDepth 20000 in
theorem ggX5_tie_X4_stands : GoodIn wsX5_tie wsX4_stands := goodIn_r _ [9, 10, 49, 50, 51, 52, 53, 54, 55, 56] (by decide +kernel) (by decide +kernel)
set_option maxRecDepth 20000 in
theorem gX5_tie_X4_stands_n138 : GoodIn wsX5_tie (wsX4_stands) := ggX5_tie_X4_stands
set_option maxRecDepth 20000 in
theorem ggX5_tie_X4_isSet : GoodIn wsX5_tie wsX4_isSet := goodIn_r _ [13, 14, 15, 16, 7, 17, 10, 49, 50, 51, 52, 53, 54, 55, 56] (by decide +kernel) (by decide +kernel)
set_option maxRecDepth 20000 in
theorem gX5_tie_X4_isSet_n141 : GoodIn wsX5_tie (wsX4_isSet) := ggX5_tie_X4_isSet
set_option maxRecDepth 20000 in
theorem ggX5_tie_X0_keep : GoodIn wsX5_tie wsX0_keep := goodIn_r _ [21, 22, 23, 24, 25, 26, 19, 27, 28, 29, 30, 31, 32, 57, 58] (by decide +kernel) (by decide +kernel)
set_option maxRecDepth 20000 in
theorem gX5_tie_X0_keep_n134 : GoodIn wsX5_tie (wsX0_keep) := ggX5_tie_X0_keep
set_option maxRecDepth 20000 in
theorem ggX5_tie_X4_addTie : GoodIn wsX5_tie wsX4_addTie := goodIn_r _ [35, 36, 37, 38, 39, 31, 29, 32, 49, 50, 51, 52, 53, 54, 55, 56] (by decide +kernel) (by decide +kernel)
set_option maxRecDepth 20000 in
theorem gX5_tie_X4_addTie_n144 : GoodIn wsX5_tie (wsX4_addTie) := ggX5_tie_X4_addTie
theorem dX5_tie_0 : decode cX5_tie 0 = .ok (.aload_n 0, 1) := by decide +kernel
theorem dX5_tie_1 : decode cX5_tie 1 = .ok (.getfield 26, 3) := by decide +kernel
theorem dX5_tie_4 : decode cX5_tie 4 = .ok (.invokevirtual 138, 3) := by decide +kernel
theorem dX5_tie_7 : decode cX5_tie 7 = .ok (.ifCond .ne 6, 3) := by decide +kernel
theorem dX5_tie_10 : decode cX5_tie 10 = .ok (.ldc 133, 2) := by decide +kernel
theorem dX5_tie_12 : decode cX5_tie 12 = .ok (.ireturn, 1) := by decide +kernel
theorem dX5_tie_13 : decode cX5_tie 13 = .ok (.iload_n 1, 1) := by decide +kernel
theorem dX5_tie_14 : decode cX5_tie 14 = .ok (.iconst 1, 1) := by decide +kernel
theorem dX5_tie_15 : decode cX5_tie 15 = .ok (.if_icmp .lt 33, 3) := by decide +kernel
theorem dX5_tie_18 : decode cX5_tie 18 = .ok (.iload_n 1, 1) := by decide +kernel
theorem dX5_tie_19 : decode cX5_tie 19 = .ok (.iconst 5, 1) := by decide +kernel
theorem dX5_tie_20 : decode cX5_tie 20 = .ok (.if_icmp .gt 28, 3) := by decide +kernel
theorem dX5_tie_23 : decode cX5_tie 23 = .ok (.iload_n 2, 1) := by decide +kernel
theorem dX5_tie_24 : decode cX5_tie 24 = .ok (.ifCond .eq 24, 3) := by decide +kernel
theorem dX5_tie_27 : decode cX5_tie 27 = .ok (.aload_n 0, 1) := by decide +kernel
theorem dX5_tie_28 : decode cX5_tie 28 = .ok (.getfield 26, 3) := by decide +kernel
theorem dX5_tie_31 : decode cX5_tie 31 = .ok (.iload_n 2, 1) := by decide +kernel
theorem dX5_tie_32 : decode cX5_tie 32 = .ok (.invokevirtual 141, 3) := by decide +kernel
theorem dX5_tie_35 : decode cX5_tie 35 = .ok (.ifCond .eq 13, 3) := by decide +kernel
theorem dX5_tie_38 : decode cX5_tie 38 = .ok (.iload_n 3, 1) := by decide +kernel
theorem dX5_tie_39 : decode cX5_tie 39 = .ok (.ifCond .lt 9, 3) := by decide +kernel
theorem dX5_tie_42 : decode cX5_tie 42 = .ok (.iload_n 3, 1) := by decide +kernel
theorem dX5_tie_43 : decode cX5_tie 43 = .ok (.bipush 40, 2) := by decide +kernel
theorem dX5_tie_45 : decode cX5_tie 45 = .ok (.if_icmp .le 6, 3) := by decide +kernel
theorem dX5_tie_48 : decode cX5_tie 48 = .ok (.ldc 64, 2) := by decide +kernel
theorem dX5_tie_50 : decode cX5_tie 50 = .ok (.ireturn, 1) := by decide +kernel
theorem dX5_tie_51 : decode cX5_tie 51 = .ok (.aload_n 0, 1) := by decide +kernel
theorem dX5_tie_52 : decode cX5_tie 52 = .ok (.getfield 26, 3) := by decide +kernel
theorem dX5_tie_55 : decode cX5_tie 55 = .ok (.getfield 120, 3) := by decide +kernel
theorem dX5_tie_58 : decode cX5_tie 58 = .ok (.bipush 8, 2) := by decide +kernel
theorem dX5_tie_60 : decode cX5_tie 60 = .ok (.if_icmp .lt 6, 3) := by decide +kernel
theorem dX5_tie_63 : decode cX5_tie 63 = .ok (.ldc 101, 2) := by decide +kernel
theorem dX5_tie_65 : decode cX5_tie 65 = .ok (.ireturn, 1) := by decide +kernel
theorem dX5_tie_66 : decode cX5_tie 66 = .ok (.aload_n 0, 1) := by decide +kernel
theorem dX5_tie_67 : decode cX5_tie 67 = .ok (.getfield 40, 3) := by decide +kernel
theorem dX5_tie_70 : decode cX5_tie 70 = .ok (.iconst 1, 1) := by decide +kernel
theorem dX5_tie_71 : decode cX5_tie 71 = .ok (.iconst 0, 1) := by decide +kernel
theorem dX5_tie_72 : decode cX5_tie 72 = .ok (.iconst 0, 1) := by decide +kernel
theorem dX5_tie_73 : decode cX5_tie 73 = .ok (.iconst 0, 1) := by decide +kernel
theorem dX5_tie_74 : decode cX5_tie 74 = .ok (.invokevirtual 134, 3) := by decide +kernel
theorem dX5_tie_77 : decode cX5_tie 77 = .ok (.aload_n 0, 1) := by decide +kernel
theorem dX5_tie_78 : decode cX5_tie 78 = .ok (.getfield 26, 3) := by decide +kernel
theorem dX5_tie_81 : decode cX5_tie 81 = .ok (.iload_n 1, 1) := by decide +kernel
theorem dX5_tie_82 : decode cX5_tie 82 = .ok (.iload_n 2, 1) := by decide +kernel
theorem dX5_tie_83 : decode cX5_tie 83 = .ok (.iload_n 3, 1) := by decide +kernel
theorem dX5_tie_84 : decode cX5_tie 84 = .ok (.invokevirtual 144, 3) := by decide +kernel
theorem dX5_tie_87 : decode cX5_tie 87 = .ok (.aload_n 0, 1) := by decide +kernel
theorem dX5_tie_88 : decode cX5_tie 88 = .ok (.getfield 26, 3) := by decide +kernel
theorem dX5_tie_91 : decode cX5_tie 91 = .ok (.getfield 120, 3) := by decide +kernel
theorem dX5_tie_94 : decode cX5_tie 94 = .ok (.iconst 1, 1) := by decide +kernel
theorem dX5_tie_95 : decode cX5_tie 95 = .ok (.isub, 1) := by decide +kernel
theorem dX5_tie_96 : decode cX5_tie 96 = .ok (.ireturn, 1) := by decide +kernel
set_option maxRecDepth 20000 in
theorem ggX5_untie_X4_kindOf : GoodIn wsX5_untie wsX4_kindOf := goodIn_r _ [7, 8, 9, 10, 11, 45, 46, 47, 48, 49, 50, 51, 52] (by decide +kernel) (by decide +kernel)
set_option maxRecDepth 20000 in
theorem gX5_untie_X4_kindOf_n148 : GoodIn wsX5_untie (wsX4_kindOf) := ggX5_untie_X4_kindOf
set_option maxRecDepth 20000 in
theorem ggX5_untie_X4_setOf : GoodIn wsX5_untie wsX4_setOf := goodIn_r _ [14, 15, 9, 10, 11, 45, 46, 47, 48, 49, 50, 51, 52] (by decide +kernel) (by decide +kernel)
set_option maxRecDepth 20000 in
theorem gX5_untie_X4_setOf_n151 : GoodIn wsX5_untie (wsX4_setOf) := ggX5_untie_X4_setOf
set_option maxRecDepth 20000 in
theorem ggX5_untie_X4_worthOf : GoodIn wsX5_untie wsX4_worthOf := goodIn_r _ [18, 19, 9, 10, 11, 45, 46, 47, 48, 49, 50, 51, 52] (by decide +kernel) (by decide +kernel)
set_option maxRecDepth 20000 in
theorem gX5_untie_X4_worthOf_n154 : GoodIn wsX5_untie (wsX4_worthOf) := ggX5_untie_X4_worthOf
set_option maxRecDepth 20000 in
theorem ggX5_untie_X0_keep : GoodIn wsX5_untie wsX0_keep := goodIn_r _ [23, 24, 25, 26, 27, 28, 21, 29, 9, 10, 11, 30, 31, 53, 54] (by decide +kernel) (by decide +kernel)
set_option maxRecDepth 20000 in
theorem gX5_untie_X0_keep_n134 : GoodIn wsX5_untie (wsX0_keep) := ggX5_untie_X0_keep
set_option maxRecDepth 20000 in
theorem ggX5_untie_X4_dropTie : GoodIn wsX5_untie wsX4_dropTie := goodIn_r _ [34, 35, 45, 46, 47, 48, 49, 50, 51, 52] (by decide +kernel) (by decide +kernel)
set_option maxRecDepth 20000 in
theorem gX5_untie_X4_dropTie_n157 : GoodIn wsX5_untie (wsX4_dropTie) := ggX5_untie_X4_dropTie
theorem dX5_untie_0 : decode cX5_untie 0 = .ok (.aload_n 0, 1) := by decide +kernel
theorem dX5_untie_1 : decode cX5_untie 1 = .ok (.getfield 26, 3) := by decide +kernel
theorem dX5_untie_4 : decode cX5_untie 4 = .ok (.getfield 120, 3) := by decide +kernel
theorem dX5_untie_7 : decode cX5_untie 7 = .ok (.iconst 1, 1) := by decide +kernel
theorem dX5_untie_8 : decode cX5_untie 8 = .ok (.isub, 1) := by decide +kernel
theorem dX5_untie_9 : decode cX5_untie 9 = .ok (.istore_n 1, 1) := by decide +kernel
theorem dX5_untie_10 : decode cX5_untie 10 = .ok (.iload_n 1, 1) := by decide +kernel
theorem dX5_untie_11 : decode cX5_untie 11 = .ok (.ifCond .ge 6, 3) := by decide +kernel
theorem dX5_untie_14 : decode cX5_untie 14 = .ok (.ldc 133, 2) := by decide +kernel
theorem dX5_untie_16 : decode cX5_untie 16 = .ok (.ireturn, 1) := by decide +kernel
theorem dX5_untie_17 : decode cX5_untie 17 = .ok (.aload_n 0, 1) := by decide +kernel
theorem dX5_untie_18 : decode cX5_untie 18 = .ok (.getfield 40, 3) := by decide +kernel
theorem dX5_untie_21 : decode cX5_untie 21 = .ok (.iconst 2, 1) := by decide +kernel
theorem dX5_untie_22 : decode cX5_untie 22 = .ok (.aload_n 0, 1) := by decide +kernel
theorem dX5_untie_23 : decode cX5_untie 23 = .ok (.getfield 26, 3) := by decide +kernel
theorem dX5_untie_26 : decode cX5_untie 26 = .ok (.iload_n 1, 1) := by decide +kernel
theorem dX5_untie_27 : decode cX5_untie 27 = .ok (.invokevirtual 148, 3) := by decide +kernel
theorem dX5_untie_30 : decode cX5_untie 30 = .ok (.aload_n 0, 1) := by decide +kernel
theorem dX5_untie_31 : decode cX5_untie 31 = .ok (.getfield 26, 3) := by decide +kernel
theorem dX5_untie_34 : decode cX5_untie 34 = .ok (.iload_n 1, 1) := by decide +kernel
theorem dX5_untie_35 : decode cX5_untie 35 = .ok (.invokevirtual 151, 3) := by decide +kernel
theorem dX5_untie_38 : decode cX5_untie 38 = .ok (.aload_n 0, 1) := by decide +kernel
theorem dX5_untie_39 : decode cX5_untie 39 = .ok (.getfield 26, 3) := by decide +kernel
theorem dX5_untie_42 : decode cX5_untie 42 = .ok (.iload_n 1, 1) := by decide +kernel
theorem dX5_untie_43 : decode cX5_untie 43 = .ok (.invokevirtual 154, 3) := by decide +kernel
theorem dX5_untie_46 : decode cX5_untie 46 = .ok (.invokevirtual 134, 3) := by decide +kernel
theorem dX5_untie_49 : decode cX5_untie 49 = .ok (.aload_n 0, 1) := by decide +kernel
theorem dX5_untie_50 : decode cX5_untie 50 = .ok (.getfield 26, 3) := by decide +kernel
theorem dX5_untie_53 : decode cX5_untie 53 = .ok (.invokevirtual 157, 3) := by decide +kernel
theorem dX5_untie_56 : decode cX5_untie 56 = .ok (.aload_n 0, 1) := by decide +kernel
theorem dX5_untie_57 : decode cX5_untie 57 = .ok (.getfield 26, 3) := by decide +kernel
theorem dX5_untie_60 : decode cX5_untie 60 = .ok (.getfield 120, 3) := by decide +kernel
theorem dX5_untie_63 : decode cX5_untie 63 = .ok (.ireturn, 1) := by decide +kernel
set_option maxRecDepth 20000 in
theorem ggX5_meals_X4_stands : GoodIn wsX5_meals wsX4_stands := goodIn_r _ [9, 10, 77, 78, 79, 80, 81, 82, 83, 84] (by decide +kernel) (by decide +kernel)
set_option maxRecDepth 20000 in
theorem gX5_meals_X4_stands_n138 : GoodIn wsX5_meals (wsX4_stands) := ggX5_meals_X4_stands
set_option maxRecDepth 20000 in
theorem ggX5_meals_X4_there : GoodIn wsX5_meals wsX4_there := goodIn_r _ [13, 14, 15, 16, 17, 7, 18, 10, 77, 78, 79, 80, 81, 82, 83, 84] (by decide +kernel) (by decide +kernel)
set_option maxRecDepth 20000 in
theorem gX5_meals_X4_there_n163 : GoodIn wsX5_meals (wsX4_there) := ggX5_meals_X4_there
set_option maxRecDepth 20000 in
theorem ggX5_meals_X4_worthOfSet : GoodIn wsX5_meals wsX4_worthOfSet := goodIn_r _ [21, 22, 23, 24, 25, 7, 26, 27, 28, 29, 30, 31, 32, 33, 34, 35, 36, 37, 38, 39, 40, 41, 42, 43, 44, 45, 46, 47, 48, 49, 50, 51, 52, 53, 54, 55, 77, 78, 79, 80, 81, 82, 83, 84] (by decide +kernel) (by decide +kernel)
set_option maxRecDepth 20000 in
theorem gX5_meals_X4_worthOfSet_n167 : GoodIn wsX5_meals (wsX4_worthOfSet) := ggX5_meals_X4_worthOfSet
set_option maxRecDepth 20000 in
theorem ggX5_meals_X0_keep : GoodIn wsX5_meals wsX0_keep := goodIn_r _ [59, 60, 61, 62, 63, 64, 57, 65, 28, 29, 30, 66, 67, 85, 86] (by decide +kernel) (by decide +kernel)
set_option maxRecDepth 20000 in
theorem gX5_meals_X0_keep_n134 : GoodIn wsX5_meals (wsX0_keep) := ggX5_meals_X0_keep
theorem dX5_meals_0 : decode cX5_meals 0 = .ok (.aload_n 0, 1) := by decide +kernel
theorem dX5_meals_1 : decode cX5_meals 1 = .ok (.getfield 26, 3) := by decide +kernel
theorem dX5_meals_4 : decode cX5_meals 4 = .ok (.invokevirtual 138, 3) := by decide +kernel
theorem dX5_meals_7 : decode cX5_meals 7 = .ok (.ifCond .ne 6, 3) := by decide +kernel
theorem dX5_meals_10 : decode cX5_meals 10 = .ok (.ldc 133, 2) := by decide +kernel
theorem dX5_meals_12 : decode cX5_meals 12 = .ok (.ireturn, 1) := by decide +kernel
theorem dX5_meals_13 : decode cX5_meals 13 = .ok (.iload_n 1, 1) := by decide +kernel
theorem dX5_meals_14 : decode cX5_meals 14 = .ok (.iconst 1, 1) := by decide +kernel
theorem dX5_meals_15 : decode cX5_meals 15 = .ok (.if_icmp .lt 9, 3) := by decide +kernel
theorem dX5_meals_18 : decode cX5_meals 18 = .ok (.iload_n 1, 1) := by decide +kernel
theorem dX5_meals_19 : decode cX5_meals 19 = .ok (.bipush 20, 2) := by decide +kernel
theorem dX5_meals_21 : decode cX5_meals 21 = .ok (.if_icmp .le 6, 3) := by decide +kernel
theorem dX5_meals_24 : decode cX5_meals 24 = .ok (.ldc 64, 2) := by decide +kernel
theorem dX5_meals_26 : decode cX5_meals 26 = .ok (.ireturn, 1) := by decide +kernel
theorem dX5_meals_27 : decode cX5_meals 27 = .ok (.aload_n 0, 1) := by decide +kernel
theorem dX5_meals_28 : decode cX5_meals 28 = .ok (.getfield 26, 3) := by decide +kernel
theorem dX5_meals_31 : decode cX5_meals 31 = .ok (.getfield 160, 3) := by decide +kernel
theorem dX5_meals_34 : decode cX5_meals 34 = .ok (.iload_n 1, 1) := by decide +kernel
theorem dX5_meals_35 : decode cX5_meals 35 = .ok (.iadd, 1) := by decide +kernel
theorem dX5_meals_36 : decode cX5_meals 36 = .ok (.sipush 999, 3) := by decide +kernel
theorem dX5_meals_39 : decode cX5_meals 39 = .ok (.if_icmp .le 6, 3) := by decide +kernel
theorem dX5_meals_42 : decode cX5_meals 42 = .ok (.ldc 101, 2) := by decide +kernel
theorem dX5_meals_44 : decode cX5_meals 44 = .ok (.ireturn, 1) := by decide +kernel
theorem dX5_meals_45 : decode cX5_meals 45 = .ok (.aload_n 0, 1) := by decide +kernel
theorem dX5_meals_46 : decode cX5_meals 46 = .ok (.getfield 26, 3) := by decide +kernel
theorem dX5_meals_49 : decode cX5_meals 49 = .ok (.aload_n 0, 1) := by decide +kernel
theorem dX5_meals_50 : decode cX5_meals 50 = .ok (.getfield 26, 3) := by decide +kernel
theorem dX5_meals_53 : decode cX5_meals 53 = .ok (.invokevirtual 163, 3) := by decide +kernel
theorem dX5_meals_56 : decode cX5_meals 56 = .ok (.invokevirtual 167, 3) := by decide +kernel
theorem dX5_meals_59 : decode cX5_meals 59 = .ok (.istore_n 2, 1) := by decide +kernel
theorem dX5_meals_60 : decode cX5_meals 60 = .ok (.iconst 0, 1) := by decide +kernel
theorem dX5_meals_61 : decode cX5_meals 61 = .ok (.istore_n 3, 1) := by decide +kernel
theorem dX5_meals_62 : decode cX5_meals 62 = .ok (.iload_n 3, 1) := by decide +kernel
theorem dX5_meals_63 : decode cX5_meals 63 = .ok (.iload_n 1, 1) := by decide +kernel
theorem dX5_meals_64 : decode cX5_meals 64 = .ok (.if_icmp .ge 20, 3) := by decide +kernel
theorem dX5_meals_67 : decode cX5_meals 67 = .ok (.aload_n 0, 1) := by decide +kernel
theorem dX5_meals_68 : decode cX5_meals 68 = .ok (.getfield 40, 3) := by decide +kernel
theorem dX5_meals_71 : decode cX5_meals 71 = .ok (.iconst 3, 1) := by decide +kernel
theorem dX5_meals_72 : decode cX5_meals 72 = .ok (.iload_n 2, 1) := by decide +kernel
theorem dX5_meals_73 : decode cX5_meals 73 = .ok (.iconst 0, 1) := by decide +kernel
theorem dX5_meals_74 : decode cX5_meals 74 = .ok (.iconst 0, 1) := by decide +kernel
theorem dX5_meals_75 : decode cX5_meals 75 = .ok (.invokevirtual 134, 3) := by decide +kernel
theorem dX5_meals_78 : decode cX5_meals 78 = .ok (.iinc 3 1, 3) := by decide +kernel
theorem dX5_meals_81 : decode cX5_meals 81 = .ok (.goto (-19), 3) := by decide +kernel
theorem dX5_meals_84 : decode cX5_meals 84 = .ok (.aload_n 0, 1) := by decide +kernel
theorem dX5_meals_85 : decode cX5_meals 85 = .ok (.getfield 26, 3) := by decide +kernel
theorem dX5_meals_88 : decode cX5_meals 88 = .ok (.dup, 1) := by decide +kernel
theorem dX5_meals_89 : decode cX5_meals 89 = .ok (.getfield 160, 3) := by decide +kernel
theorem dX5_meals_92 : decode cX5_meals 92 = .ok (.iload_n 1, 1) := by decide +kernel
theorem dX5_meals_93 : decode cX5_meals 93 = .ok (.iadd, 1) := by decide +kernel
theorem dX5_meals_94 : decode cX5_meals 94 = .ok (.putfield 160, 3) := by decide +kernel
theorem dX5_meals_97 : decode cX5_meals 97 = .ok (.aload_n 0, 1) := by decide +kernel
theorem dX5_meals_98 : decode cX5_meals 98 = .ok (.getfield 26, 3) := by decide +kernel
theorem dX5_meals_101 : decode cX5_meals 101 = .ok (.dup, 1) := by decide +kernel
theorem dX5_meals_102 : decode cX5_meals 102 = .ok (.getfield 170, 3) := by decide +kernel
theorem dX5_meals_105 : decode cX5_meals 105 = .ok (.iload_n 1, 1) := by decide +kernel
theorem dX5_meals_106 : decode cX5_meals 106 = .ok (.iload_n 2, 1) := by decide +kernel
theorem dX5_meals_107 : decode cX5_meals 107 = .ok (.imul, 1) := by decide +kernel
theorem dX5_meals_108 : decode cX5_meals 108 = .ok (.iadd, 1) := by decide +kernel
theorem dX5_meals_109 : decode cX5_meals 109 = .ok (.putfield 170, 3) := by decide +kernel
theorem dX5_meals_112 : decode cX5_meals 112 = .ok (.aload_n 0, 1) := by decide +kernel
theorem dX5_meals_113 : decode cX5_meals 113 = .ok (.getfield 26, 3) := by decide +kernel
theorem dX5_meals_116 : decode cX5_meals 116 = .ok (.getfield 170, 3) := by decide +kernel
theorem dX5_meals_119 : decode cX5_meals 119 = .ok (.ireturn, 1) := by decide +kernel
set_option maxRecDepth 20000 in
theorem ggX5_undo_X0_latest : GoodIn wsX5_undo wsX0_latest := goodIn_r _ [7, 8, 9, 10, 11, 12, 38, 39] (by decide +kernel) (by decide +kernel)
set_option maxRecDepth 20000 in
theorem gX5_undo_X0_latest_n176 : GoodIn wsX5_undo (wsX0_latest) := ggX5_undo_X0_latest
set_option maxRecDepth 20000 in
theorem ggX5_undo_X4_dropTie : GoodIn wsX5_undo wsX4_dropTie := goodIn_r _ [16, 17, 40, 41, 42, 43, 44, 45, 46, 47] (by decide +kernel) (by decide +kernel)
set_option maxRecDepth 20000 in
theorem gX5_undo_X4_dropTie_n157 : GoodIn wsX5_undo (wsX4_dropTie) := ggX5_undo_X4_dropTie
set_option maxRecDepth 20000 in
theorem ggX5_undo_X4_addTie : GoodIn wsX5_undo wsX4_addTie := goodIn_r _ [20, 17, 21, 22, 23, 24, 11, 25, 40, 41, 42, 43, 44, 45, 46, 47] (by decide +kernel) (by decide +kernel)
set_option maxRecDepth 20000 in
theorem gX5_undo_X4_addTie_n144 : GoodIn wsX5_undo (wsX4_addTie) := ggX5_undo_X4_addTie
set_option maxRecDepth 20000 in
theorem ggX5_undo_X0_forgetLatest : GoodIn wsX5_undo wsX0_forgetLatest := goodIn_r _ [28, 9, 38, 39] (by decide +kernel) (by decide +kernel)
set_option maxRecDepth 20000 in
theorem gX5_undo_X0_forgetLatest_n179 : GoodIn wsX5_undo (wsX0_forgetLatest) := ggX5_undo_X0_forgetLatest
theorem dX5_undo_0 : decode cX5_undo 0 = .ok (.aload_n 0, 1) := by decide +kernel
theorem dX5_undo_1 : decode cX5_undo 1 = .ok (.getfield 40, 3) := by decide +kernel
theorem dX5_undo_4 : decode cX5_undo 4 = .ok (.getfield 173, 3) := by decide +kernel
theorem dX5_undo_7 : decode cX5_undo 7 = .ok (.ifCond .gt 6, 3) := by decide +kernel
theorem dX5_undo_10 : decode cX5_undo 10 = .ok (.ldc 133, 2) := by decide +kernel
theorem dX5_undo_12 : decode cX5_undo 12 = .ok (.ireturn, 1) := by decide +kernel
theorem dX5_undo_13 : decode cX5_undo 13 = .ok (.aload_n 0, 1) := by decide +kernel
theorem dX5_undo_14 : decode cX5_undo 14 = .ok (.getfield 40, 3) := by decide +kernel
theorem dX5_undo_17 : decode cX5_undo 17 = .ok (.iconst 1, 1) := by decide +kernel
theorem dX5_undo_18 : decode cX5_undo 18 = .ok (.invokevirtual 176, 3) := by decide +kernel
theorem dX5_undo_21 : decode cX5_undo 21 = .ok (.istore_n 1, 1) := by decide +kernel
theorem dX5_undo_22 : decode cX5_undo 22 = .ok (.aload_n 0, 1) := by decide +kernel
theorem dX5_undo_23 : decode cX5_undo 23 = .ok (.getfield 40, 3) := by decide +kernel
theorem dX5_undo_26 : decode cX5_undo 26 = .ok (.iconst 0, 1) := by decide +kernel
theorem dX5_undo_27 : decode cX5_undo 27 = .ok (.invokevirtual 176, 3) := by decide +kernel
theorem dX5_undo_30 : decode cX5_undo 30 = .ok (.tableswitch 74 0 2 #[26, 37, 47], 26) := by decide +kernel
theorem dX5_undo_56 : decode cX5_undo 56 = .ok (.aload_n 0, 1) := by decide +kernel
theorem dX5_undo_57 : decode cX5_undo 57 = .ok (.getfield 26, 3) := by decide +kernel
theorem dX5_undo_60 : decode cX5_undo 60 = .ok (.iload_n 1, 1) := by decide +kernel
theorem dX5_undo_61 : decode cX5_undo 61 = .ok (.putfield 130, 3) := by decide +kernel
theorem dX5_undo_64 : decode cX5_undo 64 = .ok (.goto 66, 3) := by decide +kernel
theorem dX5_undo_67 : decode cX5_undo 67 = .ok (.aload_n 0, 1) := by decide +kernel
theorem dX5_undo_68 : decode cX5_undo 68 = .ok (.getfield 26, 3) := by decide +kernel
theorem dX5_undo_71 : decode cX5_undo 71 = .ok (.invokevirtual 157, 3) := by decide +kernel
theorem dX5_undo_74 : decode cX5_undo 74 = .ok (.goto 56, 3) := by decide +kernel
theorem dX5_undo_77 : decode cX5_undo 77 = .ok (.aload_n 0, 1) := by decide +kernel
theorem dX5_undo_78 : decode cX5_undo 78 = .ok (.getfield 26, 3) := by decide +kernel
theorem dX5_undo_81 : decode cX5_undo 81 = .ok (.iload_n 1, 1) := by decide +kernel
theorem dX5_undo_82 : decode cX5_undo 82 = .ok (.aload_n 0, 1) := by decide +kernel
theorem dX5_undo_83 : decode cX5_undo 83 = .ok (.getfield 40, 3) := by decide +kernel
theorem dX5_undo_86 : decode cX5_undo 86 = .ok (.iconst 2, 1) := by decide +kernel
theorem dX5_undo_87 : decode cX5_undo 87 = .ok (.invokevirtual 176, 3) := by decide +kernel
theorem dX5_undo_90 : decode cX5_undo 90 = .ok (.aload_n 0, 1) := by decide +kernel
theorem dX5_undo_91 : decode cX5_undo 91 = .ok (.getfield 40, 3) := by decide +kernel
theorem dX5_undo_94 : decode cX5_undo 94 = .ok (.iconst 3, 1) := by decide +kernel
theorem dX5_undo_95 : decode cX5_undo 95 = .ok (.invokevirtual 176, 3) := by decide +kernel
theorem dX5_undo_98 : decode cX5_undo 98 = .ok (.invokevirtual 144, 3) := by decide +kernel
theorem dX5_undo_101 : decode cX5_undo 101 = .ok (.goto 29, 3) := by decide +kernel
theorem dX5_undo_104 : decode cX5_undo 104 = .ok (.aload_n 0, 1) := by decide +kernel
theorem dX5_undo_105 : decode cX5_undo 105 = .ok (.getfield 26, 3) := by decide +kernel
theorem dX5_undo_108 : decode cX5_undo 108 = .ok (.dup, 1) := by decide +kernel
theorem dX5_undo_109 : decode cX5_undo 109 = .ok (.getfield 160, 3) := by decide +kernel
theorem dX5_undo_112 : decode cX5_undo 112 = .ok (.iconst 1, 1) := by decide +kernel
theorem dX5_undo_113 : decode cX5_undo 113 = .ok (.isub, 1) := by decide +kernel
theorem dX5_undo_114 : decode cX5_undo 114 = .ok (.putfield 160, 3) := by decide +kernel
theorem dX5_undo_117 : decode cX5_undo 117 = .ok (.aload_n 0, 1) := by decide +kernel
theorem dX5_undo_118 : decode cX5_undo 118 = .ok (.getfield 26, 3) := by decide +kernel
theorem dX5_undo_121 : decode cX5_undo 121 = .ok (.dup, 1) := by decide +kernel
theorem dX5_undo_122 : decode cX5_undo 122 = .ok (.getfield 170, 3) := by decide +kernel
theorem dX5_undo_125 : decode cX5_undo 125 = .ok (.iload_n 1, 1) := by decide +kernel
theorem dX5_undo_126 : decode cX5_undo 126 = .ok (.isub, 1) := by decide +kernel
theorem dX5_undo_127 : decode cX5_undo 127 = .ok (.putfield 170, 3) := by decide +kernel
theorem dX5_undo_130 : decode cX5_undo 130 = .ok (.aload_n 0, 1) := by decide +kernel
theorem dX5_undo_131 : decode cX5_undo 131 = .ok (.getfield 40, 3) := by decide +kernel
theorem dX5_undo_134 : decode cX5_undo 134 = .ok (.invokevirtual 179, 3) := by decide +kernel
theorem dX5_undo_137 : decode cX5_undo 137 = .ok (.aload_n 0, 1) := by decide +kernel
theorem dX5_undo_138 : decode cX5_undo 138 = .ok (.getfield 40, 3) := by decide +kernel
theorem dX5_undo_141 : decode cX5_undo 141 = .ok (.getfield 173, 3) := by decide +kernel
theorem dX5_undo_144 : decode cX5_undo 144 = .ok (.ireturn, 1) := by decide +kernel
set_option maxRecDepth 20000 in
theorem ggX5_tieHas_X4_isTie : GoodIn wsX5_tieHas wsX4_isTie := goodIn_r _ [6, 7, 57, 58, 59, 60, 61, 62, 63, 64] (by decide +kernel) (by decide +kernel)
set_option maxRecDepth 20000 in
theorem gX5_tieHas_X4_isTie_n182 : GoodIn wsX5_tieHas (wsX4_isTie) := ggX5_tieHas_X4_isTie
set_option maxRecDepth 20000 in
theorem ggX5_tieHas_X4_setOf : GoodIn wsX5_tieHas wsX4_setOf := goodIn_r _ [10, 11, 12, 13, 14, 57, 58, 59, 60, 61, 62, 63, 64] (by decide +kernel) (by decide +kernel)
set_option maxRecDepth 20000 in
theorem gX5_tieHas_X4_setOf_n151 : GoodIn wsX5_tieHas (wsX4_setOf) := ggX5_tieHas_X4_setOf
set_option maxRecDepth 20000 in
theorem ggX5_tieHas_X4_worthOf : GoodIn wsX5_tieHas wsX4_worthOf := goodIn_r _ [17, 18, 12, 13, 14, 57, 58, 59, 60, 61, 62, 63, 64] (by decide +kernel) (by decide +kernel)
set_option maxRecDepth 20000 in
theorem gX5_tieHas_X4_worthOf_n154 : GoodIn wsX5_tieHas (wsX4_worthOf) := ggX5_tieHas_X4_worthOf
set_option maxRecDepth 20000 in
theorem ggX5_tieHas_X4_kindOf : GoodIn wsX5_tieHas wsX4_kindOf := goodIn_r _ [21, 22, 12, 13, 14, 57, 58, 59, 60, 61, 62, 63, 64] (by decide +kernel) (by decide +kernel)
set_option maxRecDepth 20000 in
theorem gX5_tieHas_X4_kindOf_n148 : GoodIn wsX5_tieHas (wsX4_kindOf) := ggX5_tieHas_X4_kindOf
set_option maxRecDepth 20000 in
theorem ggX5_tieHas_X4_there : GoodIn wsX5_tieHas wsX4_there := goodIn_r _ [25, 26, 27, 28, 29, 4, 30, 31, 57, 58, 59, 60, 61, 62, 63, 64] (by decide +kernel) (by decide +kernel)
set_option maxRecDepth 20000 in
theorem gX5_tieHas_X4_there_n163 : GoodIn wsX5_tieHas (wsX4_there) := ggX5_tieHas_X4_there
set_option maxRecDepth 20000 in
theorem ggX5_tieHas_X4_counts : GoodIn wsX5_tieHas wsX4_counts := goodIn_r _ [34, 35, 36, 37, 38, 39, 8, 9, 4, 10, 11, 12, 13, 14, 40, 15, 16, 17, 18, 41, 42, 43, 44, 45, 46, 47, 57, 58, 59, 60, 61, 62, 63, 64] (by decide +kernel) (by decide +kernel)
set_option maxRecDepth 20000 in
theorem gX5_tieHas_X4_counts_n185 : GoodIn wsX5_tieHas (wsX4_counts) := ggX5_tieHas_X4_counts
theorem dX5_tieHas_0 : decode cX5_tieHas 0 = .ok (.aload_n 0, 1) := by decide +kernel
theorem dX5_tieHas_1 : decode cX5_tieHas 1 = .ok (.getfield 26, 3) := by decide +kernel
theorem dX5_tieHas_4 : decode cX5_tieHas 4 = .ok (.iload_n 1, 1) := by decide +kernel
theorem dX5_tieHas_5 : decode cX5_tieHas 5 = .ok (.invokevirtual 182, 3) := by decide +kernel
theorem dX5_tieHas_8 : decode cX5_tieHas 8 = .ok (.ifCond .ne 6, 3) := by decide +kernel
theorem dX5_tieHas_11 : decode cX5_tieHas 11 = .ok (.ldc 64, 2) := by decide +kernel
theorem dX5_tieHas_13 : decode cX5_tieHas 13 = .ok (.ireturn, 1) := by decide +kernel
theorem dX5_tieHas_14 : decode cX5_tieHas 14 = .ok (.iload_n 2, 1) := by decide +kernel
theorem dX5_tieHas_15 : decode cX5_tieHas 15 = .ok (.tableswitch 67 0 2 #[25, 34, 43], 25) := by decide +kernel
theorem dX5_tieHas_40 : decode cX5_tieHas 40 = .ok (.aload_n 0, 1) := by decide +kernel
theorem dX5_tieHas_41 : decode cX5_tieHas 41 = .ok (.getfield 26, 3) := by decide +kernel
theorem dX5_tieHas_44 : decode cX5_tieHas 44 = .ok (.iload_n 1, 1) := by decide +kernel
theorem dX5_tieHas_45 : decode cX5_tieHas 45 = .ok (.invokevirtual 151, 3) := by decide +kernel
theorem dX5_tieHas_48 : decode cX5_tieHas 48 = .ok (.ireturn, 1) := by decide +kernel
theorem dX5_tieHas_49 : decode cX5_tieHas 49 = .ok (.aload_n 0, 1) := by decide +kernel
theorem dX5_tieHas_50 : decode cX5_tieHas 50 = .ok (.getfield 26, 3) := by decide +kernel
theorem dX5_tieHas_53 : decode cX5_tieHas 53 = .ok (.iload_n 1, 1) := by decide +kernel
theorem dX5_tieHas_54 : decode cX5_tieHas 54 = .ok (.invokevirtual 154, 3) := by decide +kernel
theorem dX5_tieHas_57 : decode cX5_tieHas 57 = .ok (.ireturn, 1) := by decide +kernel
theorem dX5_tieHas_58 : decode cX5_tieHas 58 = .ok (.aload_n 0, 1) := by decide +kernel
theorem dX5_tieHas_59 : decode cX5_tieHas 59 = .ok (.getfield 26, 3) := by decide +kernel
theorem dX5_tieHas_62 : decode cX5_tieHas 62 = .ok (.iload_n 1, 1) := by decide +kernel
theorem dX5_tieHas_63 : decode cX5_tieHas 63 = .ok (.aload_n 0, 1) := by decide +kernel
theorem dX5_tieHas_64 : decode cX5_tieHas 64 = .ok (.getfield 26, 3) := by decide +kernel
theorem dX5_tieHas_67 : decode cX5_tieHas 67 = .ok (.iload_n 1, 1) := by decide +kernel
theorem dX5_tieHas_68 : decode cX5_tieHas 68 = .ok (.invokevirtual 148, 3) := by decide +kernel
theorem dX5_tieHas_71 : decode cX5_tieHas 71 = .ok (.aload_n 0, 1) := by decide +kernel
theorem dX5_tieHas_72 : decode cX5_tieHas 72 = .ok (.getfield 26, 3) := by decide +kernel
theorem dX5_tieHas_75 : decode cX5_tieHas 75 = .ok (.invokevirtual 163, 3) := by decide +kernel
theorem dX5_tieHas_78 : decode cX5_tieHas 78 = .ok (.invokevirtual 185, 3) := by decide +kernel
theorem dX5_tieHas_81 : decode cX5_tieHas 81 = .ok (.ireturn, 1) := by decide +kernel
theorem dX5_tieHas_82 : decode cX5_tieHas 82 = .ok (.ldc 64, 2) := by decide +kernel
theorem dX5_tieHas_84 : decode cX5_tieHas 84 = .ok (.ireturn, 1) := by decide +kernel
set_option maxRecDepth 20000 in
theorem ggX5_tableHas_X4_stands : GoodIn wsX5_tableHas wsX4_stands := goodIn_r _ [7, 8, 63, 64, 65, 66, 67, 68, 69, 70] (by decide +kernel) (by decide +kernel)
set_option maxRecDepth 20000 in
theorem gX5_tableHas_X4_stands_n138 : GoodIn wsX5_tableHas (wsX4_stands) := ggX5_tableHas_X4_stands
set_option maxRecDepth 20000 in
theorem ggX5_tableHas_X4_there : GoodIn wsX5_tableHas wsX4_there := goodIn_r _ [11, 12, 13, 14, 15, 5, 16, 8, 63, 64, 65, 66, 67, 68, 69, 70] (by decide +kernel) (by decide +kernel)
set_option maxRecDepth 20000 in
theorem gX5_tableHas_X4_there_n163 : GoodIn wsX5_tableHas (wsX4_there) := ggX5_tableHas_X4_there
set_option maxRecDepth 20000 in
theorem ggX5_tableHas_X4_worthOfSet : GoodIn wsX5_tableHas wsX4_worthOfSet := goodIn_r _ [19, 20, 21, 22, 23, 5, 24, 25, 26, 27, 28, 29, 30, 31, 32, 33, 34, 35, 36, 37, 38, 39, 40, 41, 42, 43, 44, 45, 46, 47, 48, 49, 50, 51, 52, 53, 63, 64, 65, 66, 67, 68, 69, 70] (by decide +kernel) (by decide +kernel)
set_option maxRecDepth 20000 in
theorem gX5_tableHas_X4_worthOfSet_n167 : GoodIn wsX5_tableHas (wsX4_worthOfSet) := ggX5_tableHas_X4_worthOfSet
set_option maxRecDepth 20000 in
theorem ggX5_tableHas_X4_everybody : GoodIn wsX5_tableHas wsX4_everybody := goodIn_r _ [16, 8, 63, 64, 65, 66, 67, 68, 69, 70] (by decide +kernel) (by decide +kernel)
set_option maxRecDepth 20000 in
theorem gX5_tableHas_X4_everybody_n189 : GoodIn wsX5_tableHas (wsX4_everybody) := ggX5_tableHas_X4_everybody
theorem dX5_tableHas_0 : decode cX5_tableHas 0 = .ok (.aload_n 0, 1) := by decide +kernel
theorem dX5_tableHas_1 : decode cX5_tableHas 1 = .ok (.getfield 26, 3) := by decide +kernel
theorem dX5_tableHas_4 : decode cX5_tableHas 4 = .ok (.invokevirtual 138, 3) := by decide +kernel
theorem dX5_tableHas_7 : decode cX5_tableHas 7 = .ok (.ifCond .ne 6, 3) := by decide +kernel
theorem dX5_tableHas_10 : decode cX5_tableHas 10 = .ok (.ldc 133, 2) := by decide +kernel
theorem dX5_tableHas_12 : decode cX5_tableHas 12 = .ok (.ireturn, 1) := by decide +kernel
theorem dX5_tableHas_13 : decode cX5_tableHas 13 = .ok (.iload_n 1, 1) := by decide +kernel
theorem dX5_tableHas_14 : decode cX5_tableHas 14 = .ok (.tableswitch 88 0 4 #[34, 42, 57, 72, 80], 34) := by decide +kernel
theorem dX5_tableHas_48 : decode cX5_tableHas 48 = .ok (.aload_n 0, 1) := by decide +kernel
theorem dX5_tableHas_49 : decode cX5_tableHas 49 = .ok (.getfield 26, 3) := by decide +kernel
theorem dX5_tableHas_52 : decode cX5_tableHas 52 = .ok (.invokevirtual 163, 3) := by decide +kernel
theorem dX5_tableHas_55 : decode cX5_tableHas 55 = .ok (.ireturn, 1) := by decide +kernel
theorem dX5_tableHas_56 : decode cX5_tableHas 56 = .ok (.aload_n 0, 1) := by decide +kernel
theorem dX5_tableHas_57 : decode cX5_tableHas 57 = .ok (.getfield 26, 3) := by decide +kernel
theorem dX5_tableHas_60 : decode cX5_tableHas 60 = .ok (.aload_n 0, 1) := by decide +kernel
theorem dX5_tableHas_61 : decode cX5_tableHas 61 = .ok (.getfield 26, 3) := by decide +kernel
theorem dX5_tableHas_64 : decode cX5_tableHas 64 = .ok (.invokevirtual 163, 3) := by decide +kernel
theorem dX5_tableHas_67 : decode cX5_tableHas 67 = .ok (.invokevirtual 167, 3) := by decide +kernel
theorem dX5_tableHas_70 : decode cX5_tableHas 70 = .ok (.ireturn, 1) := by decide +kernel
theorem dX5_tableHas_71 : decode cX5_tableHas 71 = .ok (.aload_n 0, 1) := by decide +kernel
theorem dX5_tableHas_72 : decode cX5_tableHas 72 = .ok (.getfield 26, 3) := by decide +kernel
theorem dX5_tableHas_75 : decode cX5_tableHas 75 = .ok (.aload_n 0, 1) := by decide +kernel
theorem dX5_tableHas_76 : decode cX5_tableHas 76 = .ok (.getfield 26, 3) := by decide +kernel
theorem dX5_tableHas_79 : decode cX5_tableHas 79 = .ok (.invokevirtual 189, 3) := by decide +kernel
theorem dX5_tableHas_82 : decode cX5_tableHas 82 = .ok (.invokevirtual 167, 3) := by decide +kernel
theorem dX5_tableHas_85 : decode cX5_tableHas 85 = .ok (.ireturn, 1) := by decide +kernel
theorem dX5_tableHas_86 : decode cX5_tableHas 86 = .ok (.aload_n 0, 1) := by decide +kernel
theorem dX5_tableHas_87 : decode cX5_tableHas 87 = .ok (.getfield 26, 3) := by decide +kernel
theorem dX5_tableHas_90 : decode cX5_tableHas 90 = .ok (.getfield 160, 3) := by decide +kernel
theorem dX5_tableHas_93 : decode cX5_tableHas 93 = .ok (.ireturn, 1) := by decide +kernel
theorem dX5_tableHas_94 : decode cX5_tableHas 94 = .ok (.aload_n 0, 1) := by decide +kernel
theorem dX5_tableHas_95 : decode cX5_tableHas 95 = .ok (.getfield 26, 3) := by decide +kernel
theorem dX5_tableHas_98 : decode cX5_tableHas 98 = .ok (.getfield 170, 3) := by decide +kernel
theorem dX5_tableHas_101 : decode cX5_tableHas 101 = .ok (.ireturn, 1) := by decide +kernel
theorem dX5_tableHas_102 : decode cX5_tableHas 102 = .ok (.ldc 64, 2) := by decide +kernel
theorem dX5_tableHas_104 : decode cX5_tableHas 104 = .ok (.ireturn, 1) := by decide +kernel
set_option maxRecDepth 20000 in
theorem ggX5_worth_X4_stands : GoodIn wsX5_worth wsX4_stands := goodIn_r _ [7, 8, 62, 63, 64, 65, 66, 67, 68, 69] (by decide +kernel) (by decide +kernel)
set_option maxRecDepth 20000 in
theorem gX5_worth_X4_stands_n138 : GoodIn wsX5_worth (wsX4_stands) := ggX5_worth_X4_stands
set_option maxRecDepth 20000 in
theorem ggX5_worth_X4_isSet : GoodIn wsX5_worth wsX4_isSet := goodIn_r _ [11, 12, 13, 14, 5, 15, 8, 62, 63, 64, 65, 66, 67, 68, 69] (by decide +kernel) (by decide +kernel)
set_option maxRecDepth 20000 in
theorem gX5_worth_X4_isSet_n141 : GoodIn wsX5_worth (wsX4_isSet) := ggX5_worth_X4_isSet
set_option maxRecDepth 20000 in
theorem ggX5_worth_X4_worthOfSet : GoodIn wsX5_worth wsX4_worthOfSet := goodIn_r _ [18, 19, 20, 21, 22, 5, 23, 24, 25, 26, 27, 28, 29, 30, 31, 32, 33, 34, 35, 36, 37, 38, 39, 40, 41, 42, 43, 44, 45, 46, 47, 48, 49, 50, 51, 52, 62, 63, 64, 65, 66, 67, 68, 69] (by decide +kernel) (by decide +kernel)
set_option maxRecDepth 20000 in
theorem gX5_worth_X4_worthOfSet_n167 : GoodIn wsX5_worth (wsX4_worthOfSet) := ggX5_worth_X4_worthOfSet
theorem dX5_worth_0 : decode cX5_worth 0 = .ok (.aload_n 0, 1) := by decide +kernel
theorem dX5_worth_1 : decode cX5_worth 1 = .ok (.getfield 26, 3) := by decide +kernel
theorem dX5_worth_4 : decode cX5_worth 4 = .ok (.invokevirtual 138, 3) := by decide +kernel
theorem dX5_worth_7 : decode cX5_worth 7 = .ok (.ifCond .ne 6, 3) := by decide +kernel
theorem dX5_worth_10 : decode cX5_worth 10 = .ok (.ldc 133, 2) := by decide +kernel
theorem dX5_worth_12 : decode cX5_worth 12 = .ok (.ireturn, 1) := by decide +kernel
theorem dX5_worth_13 : decode cX5_worth 13 = .ok (.aload_n 0, 1) := by decide +kernel
theorem dX5_worth_14 : decode cX5_worth 14 = .ok (.getfield 26, 3) := by decide +kernel
theorem dX5_worth_17 : decode cX5_worth 17 = .ok (.iload_n 1, 1) := by decide +kernel
theorem dX5_worth_18 : decode cX5_worth 18 = .ok (.invokevirtual 141, 3) := by decide +kernel
theorem dX5_worth_21 : decode cX5_worth 21 = .ok (.ifCond .eq 14, 3) := by decide +kernel
theorem dX5_worth_24 : decode cX5_worth 24 = .ok (.aload_n 0, 1) := by decide +kernel
theorem dX5_worth_25 : decode cX5_worth 25 = .ok (.getfield 26, 3) := by decide +kernel
theorem dX5_worth_28 : decode cX5_worth 28 = .ok (.iload_n 1, 1) := by decide +kernel
theorem dX5_worth_29 : decode cX5_worth 29 = .ok (.invokevirtual 167, 3) := by decide +kernel
theorem dX5_worth_32 : decode cX5_worth 32 = .ok (.goto 5, 3) := by decide +kernel
theorem dX5_worth_35 : decode cX5_worth 35 = .ok (.ldc 64, 2) := by decide +kernel
theorem dX5_worth_37 : decode cX5_worth 37 = .ok (.ireturn, 1) := by decide +kernel
set_option maxRecDepth 20000 in
theorem ggX5_adds_X4_isPerson : GoodIn wsX5_adds wsX4_isPerson := goodIn_r _ [6, 7, 68, 69, 70, 71, 72, 73, 74, 75] (by decide +kernel) (by decide +kernel)
set_option maxRecDepth 20000 in
theorem gX5_adds_X4_isPerson_n123 : GoodIn wsX5_adds (wsX4_isPerson) := ggX5_adds_X4_isPerson
set_option maxRecDepth 20000 in
theorem ggX5_adds_X4_isSet : GoodIn wsX5_adds wsX4_isSet := goodIn_r _ [10, 11, 12, 13, 4, 14, 7, 68, 69, 70, 71, 72, 73, 74, 75] (by decide +kernel) (by decide +kernel)
set_option maxRecDepth 20000 in
theorem gX5_adds_X4_isSet_n141 : GoodIn wsX5_adds (wsX4_isSet) := ggX5_adds_X4_isSet
set_option maxRecDepth 20000 in
theorem ggX5_adds_X5_has : GoodIn wsX5_adds wsX5_has := goodIn_r _ [18] (by decide +kernel) (by decide +kernel)
set_option maxRecDepth 20000 in
theorem gX5_adds_X5_has : GoodIn wsX5_adds (va_wsS RX5 192 yX5_has wsX5_has) := goodIn_app (goodIn_of _ (by decide +kernel)) ggX5_adds_X5_has
set_option maxRecDepth 20000 in
theorem ggX5_adds_X4_addedBy : GoodIn wsX5_adds wsX4_addedBy := goodIn_r _ [21, 22, 23, 24, 4, 25, 26, 27, 28, 29, 30, 31, 32, 17, 33, 34, 35, 36, 37, 38, 39, 40, 41, 42, 43, 44, 45, 46, 47, 48, 49, 50, 51, 52, 53, 54, 55, 56, 57, 58, 68, 69, 70, 71, 72, 73, 74, 75] (by decide +kernel) (by decide +kernel)
set_option maxRecDepth 20000 in
theorem gX5_adds_X4_addedBy_n195 : GoodIn wsX5_adds (wsX4_addedBy) := ggX5_adds_X4_addedBy
theorem dX5_adds_0 : decode cX5_adds 0 = .ok (.aload_n 0, 1) := by decide +kernel
theorem dX5_adds_1 : decode cX5_adds 1 = .ok (.getfield 26, 3) := by decide +kernel
theorem dX5_adds_4 : decode cX5_adds 4 = .ok (.iload_n 1, 1) := by decide +kernel
theorem dX5_adds_5 : decode cX5_adds 5 = .ok (.invokevirtual 123, 3) := by decide +kernel
theorem dX5_adds_8 : decode cX5_adds 8 = .ok (.ifCond .eq 22, 3) := by decide +kernel
theorem dX5_adds_11 : decode cX5_adds 11 = .ok (.aload_n 0, 1) := by decide +kernel
theorem dX5_adds_12 : decode cX5_adds 12 = .ok (.getfield 26, 3) := by decide +kernel
theorem dX5_adds_15 : decode cX5_adds 15 = .ok (.iload_n 2, 1) := by decide +kernel
theorem dX5_adds_16 : decode cX5_adds 16 = .ok (.invokevirtual 141, 3) := by decide +kernel
theorem dX5_adds_19 : decode cX5_adds 19 = .ok (.ifCond .eq 11, 3) := by decide +kernel
theorem dX5_adds_22 : decode cX5_adds 22 = .ok (.iload_n 2, 1) := by decide +kernel
theorem dX5_adds_23 : decode cX5_adds 23 = .ok (.iload_n 1, 1) := by decide +kernel
theorem dX5_adds_24 : decode cX5_adds 24 = .ok (.invokestatic 192, 3) := by decide +kernel
theorem dX5_adds_27 : decode cX5_adds 27 = .ok (.ifCond .eq 6, 3) := by decide +kernel
theorem dX5_adds_30 : decode cX5_adds 30 = .ok (.ldc 64, 2) := by decide +kernel
theorem dX5_adds_32 : decode cX5_adds 32 = .ok (.ireturn, 1) := by decide +kernel
theorem dX5_adds_33 : decode cX5_adds 33 = .ok (.aload_n 0, 1) := by decide +kernel
theorem dX5_adds_34 : decode cX5_adds 34 = .ok (.getfield 26, 3) := by decide +kernel
theorem dX5_adds_37 : decode cX5_adds 37 = .ok (.iload_n 1, 1) := by decide +kernel
theorem dX5_adds_38 : decode cX5_adds 38 = .ok (.iload_n 2, 1) := by decide +kernel
theorem dX5_adds_39 : decode cX5_adds 39 = .ok (.invokevirtual 195, 3) := by decide +kernel
theorem dX5_adds_42 : decode cX5_adds 42 = .ok (.ireturn, 1) := by decide +kernel
set_option maxRecDepth 20000 in
theorem ggX5_due_X4_isPerson : GoodIn wsX5_due wsX4_isPerson := goodIn_r _ [6, 7, 80, 81, 82, 83, 84, 85, 86, 87] (by decide +kernel) (by decide +kernel)
set_option maxRecDepth 20000 in
theorem gX5_due_X4_isPerson_n123 : GoodIn wsX5_due (wsX4_isPerson) := ggX5_due_X4_isPerson
set_option maxRecDepth 20000 in
theorem ggX5_due_X5_isZeroOrOne : GoodIn wsX5_due wsX5_isZeroOrOne := goodIn_r _ [11] (by decide +kernel) (by decide +kernel)
set_option maxRecDepth 20000 in
theorem gX5_due_X5_isZeroOrOne : GoodIn wsX5_due (va_wsS RX5 127 yX5_isZeroOrOne wsX5_isZeroOrOne) := goodIn_app (goodIn_of _ (by decide +kernel)) ggX5_due_X5_isZeroOrOne
set_option maxRecDepth 20000 in
theorem ggX5_due_X4_everybody : GoodIn wsX5_due wsX4_everybody := goodIn_r _ [14, 7, 80, 81, 82, 83, 84, 85, 86, 87] (by decide +kernel) (by decide +kernel)
set_option maxRecDepth 20000 in
theorem gX5_due_X4_everybody_n189 : GoodIn wsX5_due (wsX4_everybody) := ggX5_due_X4_everybody
set_option maxRecDepth 20000 in
theorem ggX5_due_X5_has : GoodIn wsX5_due wsX5_has := goodIn_r _ [17] (by decide +kernel) (by decide +kernel)
set_option maxRecDepth 20000 in
theorem gX5_due_X5_has : GoodIn wsX5_due (va_wsS RX5 192 yX5_has wsX5_has) := goodIn_app (goodIn_of _ (by decide +kernel)) ggX5_due_X5_has
set_option maxRecDepth 20000 in
theorem ggX5_due_J6_bitCount_0f7a4 : GoodIn wsX5_due wsJ6_bitCount_0f7a4 := goodIn_r _ [21, 22, 23, 24] (by decide +kernel) (by decide +kernel)
set_option maxRecDepth 20000 in
theorem gX5_due_J6_bitCount_0f7a4 : GoodIn wsX5_due (va_wsS RX5 202 yJ6_bitCount_0f7a4 wsJ6_bitCount_0f7a4) := goodIn_app (goodIn_of _ (by decide +kernel)) ggX5_due_J6_bitCount_0f7a4
set_option maxRecDepth 20000 in
theorem ggX5_due_X5_factorial : GoodIn wsX5_due wsX5_factorial := goodIn_r _ [27] (by decide +kernel) (by decide +kernel)
set_option maxRecDepth 20000 in
theorem gX5_due_X5_factorial : GoodIn wsX5_due (va_wsS RX5 207 yX5_factorial wsX5_factorial) := goodIn_app (goodIn_of _ (by decide +kernel)) ggX5_due_X5_factorial
set_option maxRecDepth 20000 in
theorem ggX5_due_X4_addedBy : GoodIn wsX5_due wsX4_addedBy := goodIn_r _ [30, 31, 32, 33, 4, 34, 35, 36, 37, 38, 39, 40, 41, 10, 42, 43, 44, 45, 46, 47, 48, 49, 50, 51, 52, 53, 54, 55, 56, 57, 58, 59, 60, 61, 19, 20, 21, 22, 23, 24, 80, 81, 82, 83, 84, 85, 86, 87] (by decide +kernel) (by decide +kernel)
set_option maxRecDepth 20000 in
theorem gX5_due_X4_addedBy_n195 : GoodIn wsX5_due (wsX4_addedBy) := ggX5_due_X4_addedBy
set_option maxRecDepth 20000 in
theorem ggX5_due_X5_fraction : GoodIn wsX5_due wsX5_fraction := goodIn_r _ [64, 65, 66, 49, 67, 68, 69, 10, 70] (by decide +kernel) (by decide +kernel)
set_option maxRecDepth 20000 in
theorem gX5_due_X5_fraction : GoodIn wsX5_due (va_wsS RX5 210 yX5_fraction wsX5_fraction) := goodIn_app (goodIn_of _ (by decide +kernel)) ggX5_due_X5_fraction
theorem dX5_due_0 : decode cX5_due 0 = .ok (.aload_n 0, 1) := by decide +kernel
theorem dX5_due_1 : decode cX5_due 1 = .ok (.getfield 26, 3) := by decide +kernel
theorem dX5_due_4 : decode cX5_due 4 = .ok (.iload_n 1, 1) := by decide +kernel
theorem dX5_due_5 : decode cX5_due 5 = .ok (.invokevirtual 123, 3) := by decide +kernel
theorem dX5_due_8 : decode cX5_due 8 = .ok (.ifCond .eq 10, 3) := by decide +kernel
theorem dX5_due_11 : decode cX5_due 11 = .ok (.iload_n 2, 1) := by decide +kernel
theorem dX5_due_12 : decode cX5_due 12 = .ok (.invokestatic 127, 3) := by decide +kernel
theorem dX5_due_15 : decode cX5_due 15 = .ok (.ifCond .ne 6, 3) := by decide +kernel
theorem dX5_due_18 : decode cX5_due 18 = .ok (.ldc 64, 2) := by decide +kernel
theorem dX5_due_20 : decode cX5_due 20 = .ok (.ireturn, 1) := by decide +kernel
theorem dX5_due_21 : decode cX5_due 21 = .ok (.aload_n 0, 1) := by decide +kernel
theorem dX5_due_22 : decode cX5_due 22 = .ok (.getfield 26, 3) := by decide +kernel
theorem dX5_due_25 : decode cX5_due 25 = .ok (.getfield 199, 3) := by decide +kernel
theorem dX5_due_28 : decode cX5_due 28 = .ok (.iconst 1, 1) := by decide +kernel
theorem dX5_due_29 : decode cX5_due 29 = .ok (.isub, 1) := by decide +kernel
theorem dX5_due_30 : decode cX5_due 30 = .ok (.istore_n 3, 1) := by decide +kernel
theorem dX5_due_31 : decode cX5_due 31 = .ok (.iconst 0, 1) := by decide +kernel
theorem dX5_due_32 : decode cX5_due 32 = .ok (.istore 4, 2) := by decide +kernel
theorem dX5_due_34 : decode cX5_due 34 = .ok (.iconst 0, 1) := by decide +kernel
theorem dX5_due_35 : decode cX5_due 35 = .ok (.istore 5, 2) := by decide +kernel
theorem dX5_due_37 : decode cX5_due 37 = .ok (.iload 5, 2) := by decide +kernel
theorem dX5_due_39 : decode cX5_due 39 = .ok (.aload_n 0, 1) := by decide +kernel
theorem dX5_due_40 : decode cX5_due 40 = .ok (.getfield 26, 3) := by decide +kernel
theorem dX5_due_43 : decode cX5_due 43 = .ok (.invokevirtual 189, 3) := by decide +kernel
theorem dX5_due_46 : decode cX5_due 46 = .ok (.if_icmp .gt 54, 3) := by decide +kernel
theorem dX5_due_49 : decode cX5_due 49 = .ok (.iload 5, 2) := by decide +kernel
theorem dX5_due_51 : decode cX5_due 51 = .ok (.iload_n 1, 1) := by decide +kernel
theorem dX5_due_52 : decode cX5_due 52 = .ok (.invokestatic 192, 3) := by decide +kernel
theorem dX5_due_55 : decode cX5_due 55 = .ok (.ifCond .ne 39, 3) := by decide +kernel
theorem dX5_due_58 : decode cX5_due 58 = .ok (.iload 5, 2) := by decide +kernel
theorem dX5_due_60 : decode cX5_due 60 = .ok (.invokestatic 202, 3) := by decide +kernel
theorem dX5_due_63 : decode cX5_due 63 = .ok (.istore 6, 2) := by decide +kernel
theorem dX5_due_65 : decode cX5_due 65 = .ok (.iload 4, 2) := by decide +kernel
theorem dX5_due_67 : decode cX5_due 67 = .ok (.iload 6, 2) := by decide +kernel
theorem dX5_due_69 : decode cX5_due 69 = .ok (.invokestatic 207, 3) := by decide +kernel
theorem dX5_due_72 : decode cX5_due 72 = .ok (.iload_n 3, 1) := by decide +kernel
theorem dX5_due_73 : decode cX5_due 73 = .ok (.iload 6, 2) := by decide +kernel
theorem dX5_due_75 : decode cX5_due 75 = .ok (.isub, 1) := by decide +kernel
theorem dX5_due_76 : decode cX5_due 76 = .ok (.invokestatic 207, 3) := by decide +kernel
theorem dX5_due_79 : decode cX5_due 79 = .ok (.imul, 1) := by decide +kernel
theorem dX5_due_80 : decode cX5_due 80 = .ok (.aload_n 0, 1) := by decide +kernel
theorem dX5_due_81 : decode cX5_due 81 = .ok (.getfield 26, 3) := by decide +kernel
theorem dX5_due_84 : decode cX5_due 84 = .ok (.iload_n 1, 1) := by decide +kernel
theorem dX5_due_85 : decode cX5_due 85 = .ok (.iload 5, 2) := by decide +kernel
theorem dX5_due_87 : decode cX5_due 87 = .ok (.invokevirtual 195, 3) := by decide +kernel
theorem dX5_due_90 : decode cX5_due 90 = .ok (.imul, 1) := by decide +kernel
theorem dX5_due_91 : decode cX5_due 91 = .ok (.iadd, 1) := by decide +kernel
theorem dX5_due_92 : decode cX5_due 92 = .ok (.istore 4, 2) := by decide +kernel
theorem dX5_due_94 : decode cX5_due 94 = .ok (.iinc 5 1, 3) := by decide +kernel
theorem dX5_due_97 : decode cX5_due 97 = .ok (.goto (-60), 3) := by decide +kernel
theorem dX5_due_100 : decode cX5_due 100 = .ok (.iload 4, 2) := by decide +kernel
theorem dX5_due_102 : decode cX5_due 102 = .ok (.aload_n 0, 1) := by decide +kernel
theorem dX5_due_103 : decode cX5_due 103 = .ok (.getfield 26, 3) := by decide +kernel
theorem dX5_due_106 : decode cX5_due 106 = .ok (.getfield 199, 3) := by decide +kernel
theorem dX5_due_109 : decode cX5_due 109 = .ok (.invokestatic 207, 3) := by decide +kernel
theorem dX5_due_112 : decode cX5_due 112 = .ok (.iload_n 2, 1) := by decide +kernel
theorem dX5_due_113 : decode cX5_due 113 = .ok (.invokestatic 210, 3) := by decide +kernel
theorem dX5_due_116 : decode cX5_due 116 = .ok (.ireturn, 1) := by decide +kernel
set_option maxRecDepth 20000 in
theorem ggX5_missed_X4_isPerson : GoodIn wsX5_missed wsX4_isPerson := goodIn_r _ [6, 7, 62, 63, 64, 65, 66, 67, 68, 69] (by decide +kernel) (by decide +kernel)
set_option maxRecDepth 20000 in
theorem gX5_missed_X4_isPerson_n123 : GoodIn wsX5_missed (wsX4_isPerson) := ggX5_missed_X4_isPerson
set_option maxRecDepth 20000 in
theorem ggX5_missed_X4_lostWithout : GoodIn wsX5_missed wsX4_lostWithout := goodIn_r _ [10, 11, 12, 13, 4, 14, 7, 15, 16, 17, 18, 19, 20, 21, 22, 23, 24, 25, 26, 27, 28, 29, 30, 31, 32, 33, 34, 35, 36, 37, 38, 39, 40, 41, 42, 43, 44, 45, 46, 47, 48, 49, 50, 51, 52, 62, 63, 64, 65, 66, 67, 68, 69] (by decide +kernel) (by decide +kernel)
set_option maxRecDepth 20000 in
theorem gX5_missed_X4_lostWithout_n213 : GoodIn wsX5_missed (wsX4_lostWithout) := ggX5_missed_X4_lostWithout
theorem dX5_missed_0 : decode cX5_missed 0 = .ok (.aload_n 0, 1) := by decide +kernel
theorem dX5_missed_1 : decode cX5_missed 1 = .ok (.getfield 26, 3) := by decide +kernel
theorem dX5_missed_4 : decode cX5_missed 4 = .ok (.iload_n 1, 1) := by decide +kernel
theorem dX5_missed_5 : decode cX5_missed 5 = .ok (.invokevirtual 123, 3) := by decide +kernel
theorem dX5_missed_8 : decode cX5_missed 8 = .ok (.ifCond .eq 16, 3) := by decide +kernel
theorem dX5_missed_11 : decode cX5_missed 11 = .ok (.aload_n 0, 1) := by decide +kernel
theorem dX5_missed_12 : decode cX5_missed 12 = .ok (.getfield 26, 3) := by decide +kernel
theorem dX5_missed_15 : decode cX5_missed 15 = .ok (.iconst 1, 1) := by decide +kernel
theorem dX5_missed_16 : decode cX5_missed 16 = .ok (.iload_n 1, 1) := by decide +kernel
theorem dX5_missed_17 : decode cX5_missed 17 = .ok (.ishl, 1) := by decide +kernel
theorem dX5_missed_18 : decode cX5_missed 18 = .ok (.invokevirtual 213, 3) := by decide +kernel
theorem dX5_missed_21 : decode cX5_missed 21 = .ok (.goto 5, 3) := by decide +kernel
theorem dX5_missed_24 : decode cX5_missed 24 = .ok (.ldc 64, 2) := by decide +kernel
theorem dX5_missed_26 : decode cX5_missed 26 = .ok (.ireturn, 1) := by decide +kernel
set_option maxRecDepth 20000 in
theorem ggX5_leaves_X4_stands : GoodIn wsX5_leaves wsX4_stands := goodIn_r _ [8, 9, 93, 94, 95, 96, 97, 98, 99, 100] (by decide +kernel) (by decide +kernel)
set_option maxRecDepth 20000 in
theorem gX5_leaves_X4_stands_n138 : GoodIn wsX5_leaves (wsX4_stands) := ggX5_leaves_X4_stands
set_option maxRecDepth 20000 in
theorem ggX5_leaves_X5_rowAt : GoodIn wsX5_leaves wsX5_rowAt := goodIn_r _ [14, 15, 80, 81, 82, 83, 84, 85, 86, 87, 88] (by decide +kernel) (by decide +kernel)
set_option maxRecDepth 20000 in
theorem gX5_leaves_X5_rowAt : GoodIn wsX5_leaves (wsV RX5 60 RX5 yX5_rowAt wsX5_rowAt) := goodIn_app (goodIn_of _ (by decide +kernel)) ggX5_leaves_X5_rowAt
set_option maxRecDepth 20000 in
theorem ggX5_leaves_X5_found : GoodIn wsX5_leaves wsX5_found := goodIn_r _ [19, 20, 21, 80, 81, 82, 83, 84, 85, 86, 87, 88] (by decide +kernel) (by decide +kernel)
set_option maxRecDepth 20000 in
theorem gX5_leaves_X5_found : GoodIn wsX5_leaves (wsV RX5 65 RX5 yX5_found wsX5_found) := goodIn_app (goodIn_of _ (by decide +kernel)) ggX5_leaves_X5_found
set_option maxRecDepth 20000 in
theorem ggX5_leaves_X3_holds : GoodIn wsX5_leaves wsX3_holds := goodIn_r _ [25, 26, 89, 90, 91, 92] (by decide +kernel) (by decide +kernel)
set_option maxRecDepth 20000 in
theorem gX5_leaves_X3_holds_n80 : GoodIn wsX5_leaves (wsX3_holds) := ggX5_leaves_X3_holds
set_option maxRecDepth 20000 in
theorem ggX5_leaves_X4_everybody : GoodIn wsX5_leaves wsX4_everybody := goodIn_r _ [29, 9, 93, 94, 95, 96, 97, 98, 99, 100] (by decide +kernel) (by decide +kernel)
set_option maxRecDepth 20000 in
theorem gX5_leaves_X4_everybody_n189 : GoodIn wsX5_leaves (wsX4_everybody) := ggX5_leaves_X4_everybody
set_option maxRecDepth 20000 in
theorem ggX5_leaves_X4_worthOfSet : GoodIn wsX5_leaves wsX4_worthOfSet := goodIn_r _ [32, 33, 34, 35, 36, 6, 37, 38, 39, 13, 40, 41, 42, 43, 44, 45, 46, 47, 48, 49, 50, 51, 52, 53, 54, 55, 56, 57, 58, 59, 60, 61, 62, 63, 64, 65, 93, 94, 95, 96, 97, 98, 99, 100] (by decide +kernel) (by decide +kernel)
set_option maxRecDepth 20000 in
theorem gX5_leaves_X4_worthOfSet_n167 : GoodIn wsX5_leaves (wsX4_worthOfSet) := ggX5_leaves_X4_worthOfSet
set_option maxRecDepth 20000 in
theorem ggX5_leaves_X3_sumOf : GoodIn wsX5_leaves wsX3_sumOf := goodIn_r _ [68, 69, 13, 70, 71, 72, 73, 23, 74, 75, 39, 40, 89, 90, 91, 92] (by decide +kernel) (by decide +kernel)
set_option maxRecDepth 20000 in
theorem gX5_leaves_X3_sumOf_n216 : GoodIn wsX5_leaves (wsX3_sumOf) := ggX5_leaves_X3_sumOf
set_option maxRecDepth 20000 in
theorem ggX5_leaves_X5_well : GoodIn wsX5_leaves wsX5_well := goodIn_r _ [79, 20, 80, 81, 82, 83, 84, 85, 86, 87, 88] (by decide +kernel) (by decide +kernel)
set_option maxRecDepth 20000 in
theorem gX5_leaves_X5_well : GoodIn wsX5_leaves (wsV RX5 73 RX5 yX5_well wsX5_well) := goodIn_app (goodIn_of _ (by decide +kernel)) ggX5_leaves_X5_well
theorem dX5_leaves_0 : decode cX5_leaves 0 = .ok (.aload_n 0, 1) := by decide +kernel
theorem dX5_leaves_1 : decode cX5_leaves 1 = .ok (.getfield 26, 3) := by decide +kernel
theorem dX5_leaves_4 : decode cX5_leaves 4 = .ok (.invokevirtual 138, 3) := by decide +kernel
theorem dX5_leaves_7 : decode cX5_leaves 7 = .ok (.ifCond .ne 6, 3) := by decide +kernel
theorem dX5_leaves_10 : decode cX5_leaves 10 = .ok (.ldc 133, 2) := by decide +kernel
theorem dX5_leaves_12 : decode cX5_leaves 12 = .ok (.ireturn, 1) := by decide +kernel
theorem dX5_leaves_13 : decode cX5_leaves 13 = .ok (.aload_n 0, 1) := by decide +kernel
theorem dX5_leaves_14 : decode cX5_leaves 14 = .ok (.iload_n 1, 1) := by decide +kernel
theorem dX5_leaves_15 : decode cX5_leaves 15 = .ok (.invokevirtual 60, 3) := by decide +kernel
theorem dX5_leaves_18 : decode cX5_leaves 18 = .ok (.astore_n 3, 1) := by decide +kernel
theorem dX5_leaves_19 : decode cX5_leaves 19 = .ok (.aload_n 3, 1) := by decide +kernel
theorem dX5_leaves_20 : decode cX5_leaves 20 = .ok (.ifnonnull 6, 3) := by decide +kernel
theorem dX5_leaves_23 : decode cX5_leaves 23 = .ok (.ldc 64, 2) := by decide +kernel
theorem dX5_leaves_25 : decode cX5_leaves 25 = .ok (.ireturn, 1) := by decide +kernel
theorem dX5_leaves_26 : decode cX5_leaves 26 = .ok (.aload_n 3, 1) := by decide +kernel
theorem dX5_leaves_27 : decode cX5_leaves 27 = .ok (.getfield 76, 3) := by decide +kernel
theorem dX5_leaves_30 : decode cX5_leaves 30 = .ok (.ifCond .ne 9, 3) := by decide +kernel
theorem dX5_leaves_33 : decode cX5_leaves 33 = .ok (.aload_n 0, 1) := by decide +kernel
theorem dX5_leaves_34 : decode cX5_leaves 34 = .ok (.iconst 1, 1) := by decide +kernel
theorem dX5_leaves_35 : decode cX5_leaves 35 = .ok (.invokevirtual 65, 3) := by decide +kernel
theorem dX5_leaves_38 : decode cX5_leaves 38 = .ok (.ireturn, 1) := by decide +kernel
theorem dX5_leaves_39 : decode cX5_leaves 39 = .ok (.aload_n 3, 1) := by decide +kernel
theorem dX5_leaves_40 : decode cX5_leaves 40 = .ok (.iload_n 2, 1) := by decide +kernel
theorem dX5_leaves_41 : decode cX5_leaves 41 = .ok (.aload_n 0, 1) := by decide +kernel
theorem dX5_leaves_42 : decode cX5_leaves 42 = .ok (.getfield 26, 3) := by decide +kernel
theorem dX5_leaves_45 : decode cX5_leaves 45 = .ok (.getfield 199, 3) := by decide +kernel
theorem dX5_leaves_48 : decode cX5_leaves 48 = .ok (.invokevirtual 80, 3) := by decide +kernel
theorem dX5_leaves_51 : decode cX5_leaves 51 = .ok (.ifCond .ne 9, 3) := by decide +kernel
theorem dX5_leaves_54 : decode cX5_leaves 54 = .ok (.aload_n 0, 1) := by decide +kernel
theorem dX5_leaves_55 : decode cX5_leaves 55 = .ok (.iconst 2, 1) := by decide +kernel
theorem dX5_leaves_56 : decode cX5_leaves 56 = .ok (.invokevirtual 65, 3) := by decide +kernel
theorem dX5_leaves_59 : decode cX5_leaves 59 = .ok (.ireturn, 1) := by decide +kernel
theorem dX5_leaves_60 : decode cX5_leaves 60 = .ok (.iconst 1, 1) := by decide +kernel
theorem dX5_leaves_61 : decode cX5_leaves 61 = .ok (.istore 4, 2) := by decide +kernel
theorem dX5_leaves_63 : decode cX5_leaves 63 = .ok (.iload 4, 2) := by decide +kernel
theorem dX5_leaves_65 : decode cX5_leaves 65 = .ok (.aload_n 0, 1) := by decide +kernel
theorem dX5_leaves_66 : decode cX5_leaves 66 = .ok (.getfield 26, 3) := by decide +kernel
theorem dX5_leaves_69 : decode cX5_leaves 69 = .ok (.invokevirtual 189, 3) := by decide +kernel
theorem dX5_leaves_72 : decode cX5_leaves 72 = .ok (.if_icmp .gt 44, 3) := by decide +kernel
theorem dX5_leaves_75 : decode cX5_leaves 75 = .ok (.aload_n 0, 1) := by decide +kernel
theorem dX5_leaves_76 : decode cX5_leaves 76 = .ok (.getfield 26, 3) := by decide +kernel
theorem dX5_leaves_79 : decode cX5_leaves 79 = .ok (.iload 4, 2) := by decide +kernel
theorem dX5_leaves_81 : decode cX5_leaves 81 = .ok (.invokevirtual 167, 3) := by decide +kernel
theorem dX5_leaves_84 : decode cX5_leaves 84 = .ok (.i2l, 1) := by decide +kernel
theorem dX5_leaves_85 : decode cX5_leaves 85 = .ok (.aload_n 3, 1) := by decide +kernel
theorem dX5_leaves_86 : decode cX5_leaves 86 = .ok (.iload 4, 2) := by decide +kernel
theorem dX5_leaves_88 : decode cX5_leaves 88 = .ok (.iload_n 2, 1) := by decide +kernel
theorem dX5_leaves_89 : decode cX5_leaves 89 = .ok (.aload_n 0, 1) := by decide +kernel
theorem dX5_leaves_90 : decode cX5_leaves 90 = .ok (.getfield 26, 3) := by decide +kernel
theorem dX5_leaves_93 : decode cX5_leaves 93 = .ok (.getfield 199, 3) := by decide +kernel
theorem dX5_leaves_96 : decode cX5_leaves 96 = .ok (.invokevirtual 216, 3) := by decide +kernel
theorem dX5_leaves_99 : decode cX5_leaves 99 = .ok (.lcmp, 1) := by decide +kernel
theorem dX5_leaves_100 : decode cX5_leaves 100 = .ok (.ifCond .le 10, 3) := by decide +kernel
theorem dX5_leaves_103 : decode cX5_leaves 103 = .ok (.aload_n 0, 1) := by decide +kernel
theorem dX5_leaves_104 : decode cX5_leaves 104 = .ok (.iload 4, 2) := by decide +kernel
theorem dX5_leaves_106 : decode cX5_leaves 106 = .ok (.invokevirtual 73, 3) := by decide +kernel
theorem dX5_leaves_109 : decode cX5_leaves 109 = .ok (.ireturn, 1) := by decide +kernel
theorem dX5_leaves_110 : decode cX5_leaves 110 = .ok (.iinc 4 1, 3) := by decide +kernel
theorem dX5_leaves_113 : decode cX5_leaves 113 = .ok (.goto (-50), 3) := by decide +kernel
theorem dX5_leaves_116 : decode cX5_leaves 116 = .ok (.aload_n 0, 1) := by decide +kernel
theorem dX5_leaves_117 : decode cX5_leaves 117 = .ok (.ldc 220, 2) := by decide +kernel
theorem dX5_leaves_119 : decode cX5_leaves 119 = .ok (.invokevirtual 73, 3) := by decide +kernel
theorem dX5_leaves_122 : decode cX5_leaves 122 = .ok (.ireturn, 1) := by decide +kernel
set_option maxRecDepth 20000 in
theorem ggX5_together_X4_stands : GoodIn wsX5_together wsX4_stands := goodIn_r _ [8, 9, 71, 72, 73, 74, 75, 76, 77, 78] (by decide +kernel) (by decide +kernel)
set_option maxRecDepth 20000 in
theorem gX5_together_X4_stands_n138 : GoodIn wsX5_together (wsX4_stands) := ggX5_together_X4_stands
set_option maxRecDepth 20000 in
theorem ggX5_together_X5_isZeroOrOne : GoodIn wsX5_together wsX5_isZeroOrOne := goodIn_r _ [13] (by decide +kernel) (by decide +kernel)
set_option maxRecDepth 20000 in
theorem gX5_together_X5_isZeroOrOne : GoodIn wsX5_together (va_wsS RX5 127 yX5_isZeroOrOne wsX5_isZeroOrOne) := goodIn_app (goodIn_of _ (by decide +kernel)) ggX5_together_X5_isZeroOrOne
set_option maxRecDepth 20000 in
theorem ggX5_together_X4_areMissedOnlyTogether : GoodIn wsX5_together wsX4_areMissedOnlyTogether := goodIn_r _ [16, 17, 18, 19, 6, 20, 21, 22, 23, 24, 9, 25, 26, 27, 28, 29, 30, 31, 32, 33, 34, 35, 12, 36, 37, 38, 39, 40, 41, 42, 43, 44, 45, 46, 47, 48, 49, 50, 51, 52, 53, 54, 55, 56, 57, 58, 59, 60, 61, 71, 72, 73, 74, 75, 76, 77, 78] (by decide +kernel) (by decide +kernel)
set_option maxRecDepth 20000 in
theorem gX5_together_X4_areMissedOnlyTogether_n221 : GoodIn wsX5_together (wsX4_areMissedOnlyTogether) := ggX5_together_X4_areMissedOnlyTogether
theorem dX5_together_0 : decode cX5_together 0 = .ok (.aload_n 0, 1) := by decide +kernel
theorem dX5_together_1 : decode cX5_together 1 = .ok (.getfield 26, 3) := by decide +kernel
theorem dX5_together_4 : decode cX5_together 4 = .ok (.invokevirtual 138, 3) := by decide +kernel
theorem dX5_together_7 : decode cX5_together 7 = .ok (.ifCond .ne 6, 3) := by decide +kernel
theorem dX5_together_10 : decode cX5_together 10 = .ok (.ldc 133, 2) := by decide +kernel
theorem dX5_together_12 : decode cX5_together 12 = .ok (.ireturn, 1) := by decide +kernel
theorem dX5_together_13 : decode cX5_together 13 = .ok (.iload_n 1, 1) := by decide +kernel
theorem dX5_together_14 : decode cX5_together 14 = .ok (.invokestatic 127, 3) := by decide +kernel
theorem dX5_together_17 : decode cX5_together 17 = .ok (.ifCond .ne 6, 3) := by decide +kernel
theorem dX5_together_20 : decode cX5_together 20 = .ok (.ldc 64, 2) := by decide +kernel
theorem dX5_together_22 : decode cX5_together 22 = .ok (.ireturn, 1) := by decide +kernel
theorem dX5_together_23 : decode cX5_together 23 = .ok (.iconst 0, 1) := by decide +kernel
theorem dX5_together_24 : decode cX5_together 24 = .ok (.istore_n 2, 1) := by decide +kernel
theorem dX5_together_25 : decode cX5_together 25 = .ok (.ldc 220, 2) := by decide +kernel
theorem dX5_together_27 : decode cX5_together 27 = .ok (.istore_n 3, 1) := by decide +kernel
theorem dX5_together_28 : decode cX5_together 28 = .ok (.iconst 0, 1) := by decide +kernel
theorem dX5_together_29 : decode cX5_together 29 = .ok (.istore 4, 2) := by decide +kernel
theorem dX5_together_31 : decode cX5_together 31 = .ok (.iload 4, 2) := by decide +kernel
theorem dX5_together_33 : decode cX5_together 33 = .ok (.aload_n 0, 1) := by decide +kernel
theorem dX5_together_34 : decode cX5_together 34 = .ok (.getfield 26, 3) := by decide +kernel
theorem dX5_together_37 : decode cX5_together 37 = .ok (.getfield 199, 3) := by decide +kernel
theorem dX5_together_40 : decode cX5_together 40 = .ok (.if_icmp .ge 67, 3) := by decide +kernel
theorem dX5_together_43 : decode cX5_together 43 = .ok (.iload 4, 2) := by decide +kernel
theorem dX5_together_45 : decode cX5_together 45 = .ok (.iconst 1, 1) := by decide +kernel
theorem dX5_together_46 : decode cX5_together 46 = .ok (.iadd, 1) := by decide +kernel
theorem dX5_together_47 : decode cX5_together 47 = .ok (.istore 5, 2) := by decide +kernel
theorem dX5_together_49 : decode cX5_together 49 = .ok (.iload 5, 2) := by decide +kernel
theorem dX5_together_51 : decode cX5_together 51 = .ok (.aload_n 0, 1) := by decide +kernel
theorem dX5_together_52 : decode cX5_together 52 = .ok (.getfield 26, 3) := by decide +kernel
theorem dX5_together_55 : decode cX5_together 55 = .ok (.getfield 199, 3) := by decide +kernel
theorem dX5_together_58 : decode cX5_together 58 = .ok (.if_icmp .ge 43, 3) := by decide +kernel
theorem dX5_together_61 : decode cX5_together 61 = .ok (.aload_n 0, 1) := by decide +kernel
theorem dX5_together_62 : decode cX5_together 62 = .ok (.getfield 26, 3) := by decide +kernel
theorem dX5_together_65 : decode cX5_together 65 = .ok (.iload 4, 2) := by decide +kernel
theorem dX5_together_67 : decode cX5_together 67 = .ok (.iload 5, 2) := by decide +kernel
theorem dX5_together_69 : decode cX5_together 69 = .ok (.invokevirtual 221, 3) := by decide +kernel
theorem dX5_together_72 : decode cX5_together 72 = .ok (.ifCond .eq 23, 3) := by decide +kernel
theorem dX5_together_75 : decode cX5_together 75 = .ok (.iload_n 2, 1) := by decide +kernel
theorem dX5_together_76 : decode cX5_together 76 = .ok (.ifCond .ne 14, 3) := by decide +kernel
theorem dX5_together_79 : decode cX5_together 79 = .ok (.bipush 10, 2) := by decide +kernel
theorem dX5_together_81 : decode cX5_together 81 = .ok (.iload 4, 2) := by decide +kernel
theorem dX5_together_83 : decode cX5_together 83 = .ok (.imul, 1) := by decide +kernel
theorem dX5_together_84 : decode cX5_together 84 = .ok (.iload 5, 2) := by decide +kernel
theorem dX5_together_86 : decode cX5_together 86 = .ok (.iadd, 1) := by decide +kernel
theorem dX5_together_87 : decode cX5_together 87 = .ok (.goto 4, 3) := by decide +kernel
theorem dX5_together_90 : decode cX5_together 90 = .ok (.iload_n 3, 1) := by decide +kernel
theorem dX5_together_91 : decode cX5_together 91 = .ok (.istore_n 3, 1) := by decide +kernel
theorem dX5_together_92 : decode cX5_together 92 = .ok (.iinc 2 1, 3) := by decide +kernel
theorem dX5_together_95 : decode cX5_together 95 = .ok (.iinc 5 1, 3) := by decide +kernel
theorem dX5_together_98 : decode cX5_together 98 = .ok (.goto (-49), 3) := by decide +kernel
theorem dX5_together_101 : decode cX5_together 101 = .ok (.iinc 4 1, 3) := by decide +kernel
theorem dX5_together_104 : decode cX5_together 104 = .ok (.goto (-73), 3) := by decide +kernel
theorem dX5_together_107 : decode cX5_together 107 = .ok (.iload_n 1, 1) := by decide +kernel
theorem dX5_together_108 : decode cX5_together 108 = .ok (.ifCond .ne 7, 3) := by decide +kernel
theorem dX5_together_111 : decode cX5_together 111 = .ok (.iload_n 2, 1) := by decide +kernel
theorem dX5_together_112 : decode cX5_together 112 = .ok (.goto 4, 3) := by decide +kernel
theorem dX5_together_115 : decode cX5_together 115 = .ok (.iload_n 3, 1) := by decide +kernel
theorem dX5_together_116 : decode cX5_together 116 = .ok (.ireturn, 1) := by decide +kernel
set_option maxRecDepth 20000 in
theorem ggX5_whoAway_X4_stands : GoodIn wsX5_whoAway wsX4_stands := goodIn_r _ [8, 9, 65, 66, 67, 68, 69, 70, 71, 72] (by decide +kernel) (by decide +kernel)
set_option maxRecDepth 20000 in
theorem gX5_whoAway_X4_stands_n138 : GoodIn wsX5_whoAway (wsX4_stands) := ggX5_whoAway_X4_stands
set_option maxRecDepth 20000 in
theorem ggX5_whoAway_X5_isLookedFor : GoodIn wsX5_whoAway wsX5_isLookedFor := goodIn_r _ [13] (by decide +kernel) (by decide +kernel)
set_option maxRecDepth 20000 in
theorem gX5_whoAway_X5_isLookedFor : GoodIn wsX5_whoAway (va_wsS RX5 224 yX5_isLookedFor wsX5_isLookedFor) := goodIn_app (goodIn_of _ (by decide +kernel)) ggX5_whoAway_X5_isLookedFor
set_option maxRecDepth 20000 in
theorem ggX5_whoAway_X5_isZeroOrOne : GoodIn wsX5_whoAway wsX5_isZeroOrOne := goodIn_r _ [16] (by decide +kernel) (by decide +kernel)
set_option maxRecDepth 20000 in
theorem gX5_whoAway_X5_isZeroOrOne : GoodIn wsX5_whoAway (va_wsS RX5 127 yX5_isZeroOrOne wsX5_isZeroOrOne) := goodIn_app (goodIn_of _ (by decide +kernel)) ggX5_whoAway_X5_isZeroOrOne
set_option maxRecDepth 20000 in
theorem ggX5_whoAway_X4_everybody : GoodIn wsX5_whoAway wsX4_everybody := goodIn_r _ [19, 9, 65, 66, 67, 68, 69, 70, 71, 72] (by decide +kernel) (by decide +kernel)
set_option maxRecDepth 20000 in
theorem gX5_whoAway_X4_everybody_n189 : GoodIn wsX5_whoAway (wsX4_everybody) := ggX5_whoAway_X4_everybody
set_option maxRecDepth 20000 in
theorem ggX5_whoAway_X4_worthOfSet : GoodIn wsX5_whoAway wsX4_worthOfSet := goodIn_r _ [22, 23, 24, 25, 26, 6, 27, 28, 29, 12, 30, 31, 32, 33, 34, 35, 36, 37, 38, 39, 40, 41, 42, 43, 44, 45, 46, 47, 48, 49, 50, 51, 52, 53, 54, 55, 65, 66, 67, 68, 69, 70, 71, 72] (by decide +kernel) (by decide +kernel)
set_option maxRecDepth 20000 in
theorem gX5_whoAway_X4_worthOfSet_n167 : GoodIn wsX5_whoAway (wsX4_worthOfSet) := ggX5_whoAway_X4_worthOfSet
theorem dX5_whoAway_0 : decode cX5_whoAway 0 = .ok (.aload_n 0, 1) := by decide +kernel
theorem dX5_whoAway_1 : decode cX5_whoAway 1 = .ok (.getfield 26, 3) := by decide +kernel
theorem dX5_whoAway_4 : decode cX5_whoAway 4 = .ok (.invokevirtual 138, 3) := by decide +kernel
theorem dX5_whoAway_7 : decode cX5_whoAway 7 = .ok (.ifCond .ne 6, 3) := by decide +kernel
theorem dX5_whoAway_10 : decode cX5_whoAway 10 = .ok (.ldc 133, 2) := by decide +kernel
theorem dX5_whoAway_12 : decode cX5_whoAway 12 = .ok (.ireturn, 1) := by decide +kernel
theorem dX5_whoAway_13 : decode cX5_whoAway 13 = .ok (.iload_n 1, 1) := by decide +kernel
theorem dX5_whoAway_14 : decode cX5_whoAway 14 = .ok (.invokestatic 224, 3) := by decide +kernel
theorem dX5_whoAway_17 : decode cX5_whoAway 17 = .ok (.ifCond .eq 10, 3) := by decide +kernel
theorem dX5_whoAway_20 : decode cX5_whoAway 20 = .ok (.iload_n 2, 1) := by decide +kernel
theorem dX5_whoAway_21 : decode cX5_whoAway 21 = .ok (.invokestatic 127, 3) := by decide +kernel
theorem dX5_whoAway_24 : decode cX5_whoAway 24 = .ok (.ifCond .ne 6, 3) := by decide +kernel
theorem dX5_whoAway_27 : decode cX5_whoAway 27 = .ok (.ldc 64, 2) := by decide +kernel
theorem dX5_whoAway_29 : decode cX5_whoAway 29 = .ok (.ireturn, 1) := by decide +kernel
theorem dX5_whoAway_30 : decode cX5_whoAway 30 = .ok (.iconst 0, 1) := by decide +kernel
theorem dX5_whoAway_31 : decode cX5_whoAway 31 = .ok (.istore_n 3, 1) := by decide +kernel
theorem dX5_whoAway_32 : decode cX5_whoAway 32 = .ok (.ldc 220, 2) := by decide +kernel
theorem dX5_whoAway_34 : decode cX5_whoAway 34 = .ok (.istore 4, 2) := by decide +kernel
theorem dX5_whoAway_36 : decode cX5_whoAway 36 = .ok (.iconst 0, 1) := by decide +kernel
theorem dX5_whoAway_37 : decode cX5_whoAway 37 = .ok (.istore 5, 2) := by decide +kernel
theorem dX5_whoAway_39 : decode cX5_whoAway 39 = .ok (.iload 5, 2) := by decide +kernel
theorem dX5_whoAway_41 : decode cX5_whoAway 41 = .ok (.aload_n 0, 1) := by decide +kernel
theorem dX5_whoAway_42 : decode cX5_whoAway 42 = .ok (.getfield 26, 3) := by decide +kernel
theorem dX5_whoAway_45 : decode cX5_whoAway 45 = .ok (.invokevirtual 189, 3) := by decide +kernel
theorem dX5_whoAway_48 : decode cX5_whoAway 48 = .ok (.if_icmp .gt 48, 3) := by decide +kernel
theorem dX5_whoAway_51 : decode cX5_whoAway 51 = .ok (.aload_n 0, 1) := by decide +kernel
theorem dX5_whoAway_52 : decode cX5_whoAway 52 = .ok (.getfield 26, 3) := by decide +kernel
theorem dX5_whoAway_55 : decode cX5_whoAway 55 = .ok (.aload_n 0, 1) := by decide +kernel
theorem dX5_whoAway_56 : decode cX5_whoAway 56 = .ok (.getfield 26, 3) := by decide +kernel
theorem dX5_whoAway_59 : decode cX5_whoAway 59 = .ok (.invokevirtual 189, 3) := by decide +kernel
theorem dX5_whoAway_62 : decode cX5_whoAway 62 = .ok (.iload 5, 2) := by decide +kernel
theorem dX5_whoAway_64 : decode cX5_whoAway 64 = .ok (.iconst (-1), 1) := by decide +kernel
theorem dX5_whoAway_65 : decode cX5_whoAway 65 = .ok (.ixor, 1) := by decide +kernel
theorem dX5_whoAway_66 : decode cX5_whoAway 66 = .ok (.iand, 1) := by decide +kernel
theorem dX5_whoAway_67 : decode cX5_whoAway 67 = .ok (.invokevirtual 167, 3) := by decide +kernel
theorem dX5_whoAway_70 : decode cX5_whoAway 70 = .ok (.iload_n 1, 1) := by decide +kernel
theorem dX5_whoAway_71 : decode cX5_whoAway 71 = .ok (.if_icmp .ne 19, 3) := by decide +kernel
theorem dX5_whoAway_74 : decode cX5_whoAway 74 = .ok (.iload_n 3, 1) := by decide +kernel
theorem dX5_whoAway_75 : decode cX5_whoAway 75 = .ok (.ifCond .ne 8, 3) := by decide +kernel
theorem dX5_whoAway_78 : decode cX5_whoAway 78 = .ok (.iload 5, 2) := by decide +kernel
theorem dX5_whoAway_80 : decode cX5_whoAway 80 = .ok (.goto 5, 3) := by decide +kernel
theorem dX5_whoAway_83 : decode cX5_whoAway 83 = .ok (.iload 4, 2) := by decide +kernel
theorem dX5_whoAway_85 : decode cX5_whoAway 85 = .ok (.istore 4, 2) := by decide +kernel
theorem dX5_whoAway_87 : decode cX5_whoAway 87 = .ok (.iinc 3 1, 3) := by decide +kernel
theorem dX5_whoAway_90 : decode cX5_whoAway 90 = .ok (.iinc 5 1, 3) := by decide +kernel
theorem dX5_whoAway_93 : decode cX5_whoAway 93 = .ok (.goto (-54), 3) := by decide +kernel
theorem dX5_whoAway_96 : decode cX5_whoAway 96 = .ok (.iload_n 2, 1) := by decide +kernel
theorem dX5_whoAway_97 : decode cX5_whoAway 97 = .ok (.ifCond .ne 7, 3) := by decide +kernel
theorem dX5_whoAway_100 : decode cX5_whoAway 100 = .ok (.iload_n 3, 1) := by decide +kernel
theorem dX5_whoAway_101 : decode cX5_whoAway 101 = .ok (.goto 5, 3) := by decide +kernel
theorem dX5_whoAway_104 : decode cX5_whoAway 104 = .ok (.iload 4, 2) := by decide +kernel
theorem dX5_whoAway_106 : decode cX5_whoAway 106 = .ok (.ireturn, 1) := by decide +kernel
set_option maxRecDepth 20000 in
theorem ggX5_enough_X4_stands : GoodIn wsX5_enough wsX4_stands := goodIn_r _ [8, 9, 66, 67, 68, 69, 70, 71, 72, 73] (by decide +kernel) (by decide +kernel)
set_option maxRecDepth 20000 in
theorem gX5_enough_X4_stands_n138 : GoodIn wsX5_enough (wsX4_stands) := ggX5_enough_X4_stands
set_option maxRecDepth 20000 in
theorem ggX5_enough_X5_isLookedFor : GoodIn wsX5_enough wsX5_isLookedFor := goodIn_r _ [13] (by decide +kernel) (by decide +kernel)
set_option maxRecDepth 20000 in
theorem gX5_enough_X5_isLookedFor : GoodIn wsX5_enough (va_wsS RX5 224 yX5_isLookedFor wsX5_isLookedFor) := goodIn_app (goodIn_of _ (by decide +kernel)) ggX5_enough_X5_isLookedFor
set_option maxRecDepth 20000 in
theorem ggX5_enough_X5_isZeroOrOne : GoodIn wsX5_enough wsX5_isZeroOrOne := goodIn_r _ [16] (by decide +kernel) (by decide +kernel)
set_option maxRecDepth 20000 in
theorem gX5_enough_X5_isZeroOrOne : GoodIn wsX5_enough (va_wsS RX5 127 yX5_isZeroOrOne wsX5_isZeroOrOne) := goodIn_app (goodIn_of _ (by decide +kernel)) ggX5_enough_X5_isZeroOrOne
set_option maxRecDepth 20000 in
theorem ggX5_enough_X4_everybody : GoodIn wsX5_enough wsX4_everybody := goodIn_r _ [19, 9, 66, 67, 68, 69, 70, 71, 72, 73] (by decide +kernel) (by decide +kernel)
set_option maxRecDepth 20000 in
theorem gX5_enough_X4_everybody_n189 : GoodIn wsX5_enough (wsX4_everybody) := ggX5_enough_X4_everybody
set_option maxRecDepth 20000 in
theorem ggX5_enough_J6_bitCount_0f7a4 : GoodIn wsX5_enough wsJ6_bitCount_0f7a4 := goodIn_r _ [23, 24, 25, 26] (by decide +kernel) (by decide +kernel)
set_option maxRecDepth 20000 in
theorem gX5_enough_J6_bitCount_0f7a4 : GoodIn wsX5_enough (va_wsS RX5 202 yJ6_bitCount_0f7a4 wsJ6_bitCount_0f7a4) := goodIn_app (goodIn_of _ (by decide +kernel)) ggX5_enough_J6_bitCount_0f7a4
set_option maxRecDepth 20000 in
theorem ggX5_enough_X4_worthOfSet : GoodIn wsX5_enough wsX4_worthOfSet := goodIn_r _ [29, 30, 31, 32, 33, 6, 34, 35, 36, 12, 37, 38, 39, 40, 41, 42, 43, 44, 45, 46, 47, 48, 49, 50, 51, 52, 53, 54, 55, 56, 21, 22, 23, 24, 25, 26, 66, 67, 68, 69, 70, 71, 72, 73] (by decide +kernel) (by decide +kernel)
set_option maxRecDepth 20000 in
theorem gX5_enough_X4_worthOfSet_n167 : GoodIn wsX5_enough (wsX4_worthOfSet) := ggX5_enough_X4_worthOfSet
theorem dX5_enough_0 : decode cX5_enough 0 = .ok (.aload_n 0, 1) := by decide +kernel
theorem dX5_enough_1 : decode cX5_enough 1 = .ok (.getfield 26, 3) := by decide +kernel
theorem dX5_enough_4 : decode cX5_enough 4 = .ok (.invokevirtual 138, 3) := by decide +kernel
theorem dX5_enough_7 : decode cX5_enough 7 = .ok (.ifCond .ne 6, 3) := by decide +kernel
theorem dX5_enough_10 : decode cX5_enough 10 = .ok (.ldc 133, 2) := by decide +kernel
theorem dX5_enough_12 : decode cX5_enough 12 = .ok (.ireturn, 1) := by decide +kernel
theorem dX5_enough_13 : decode cX5_enough 13 = .ok (.iload_n 1, 1) := by decide +kernel
theorem dX5_enough_14 : decode cX5_enough 14 = .ok (.invokestatic 224, 3) := by decide +kernel
theorem dX5_enough_17 : decode cX5_enough 17 = .ok (.ifCond .eq 10, 3) := by decide +kernel
theorem dX5_enough_20 : decode cX5_enough 20 = .ok (.iload_n 2, 1) := by decide +kernel
theorem dX5_enough_21 : decode cX5_enough 21 = .ok (.invokestatic 127, 3) := by decide +kernel
theorem dX5_enough_24 : decode cX5_enough 24 = .ok (.ifCond .ne 6, 3) := by decide +kernel
theorem dX5_enough_27 : decode cX5_enough 27 = .ok (.ldc 64, 2) := by decide +kernel
theorem dX5_enough_29 : decode cX5_enough 29 = .ok (.ireturn, 1) := by decide +kernel
theorem dX5_enough_30 : decode cX5_enough 30 = .ok (.ldc 220, 2) := by decide +kernel
theorem dX5_enough_32 : decode cX5_enough 32 = .ok (.istore_n 3, 1) := by decide +kernel
theorem dX5_enough_33 : decode cX5_enough 33 = .ok (.ldc 220, 2) := by decide +kernel
theorem dX5_enough_35 : decode cX5_enough 35 = .ok (.istore 4, 2) := by decide +kernel
theorem dX5_enough_37 : decode cX5_enough 37 = .ok (.iconst 0, 1) := by decide +kernel
theorem dX5_enough_38 : decode cX5_enough 38 = .ok (.istore 5, 2) := by decide +kernel
theorem dX5_enough_40 : decode cX5_enough 40 = .ok (.iload 5, 2) := by decide +kernel
theorem dX5_enough_42 : decode cX5_enough 42 = .ok (.aload_n 0, 1) := by decide +kernel
theorem dX5_enough_43 : decode cX5_enough 43 = .ok (.getfield 26, 3) := by decide +kernel
theorem dX5_enough_46 : decode cX5_enough 46 = .ok (.invokevirtual 189, 3) := by decide +kernel
theorem dX5_enough_49 : decode cX5_enough 49 = .ok (.if_icmp .gt 49, 3) := by decide +kernel
theorem dX5_enough_52 : decode cX5_enough 52 = .ok (.iload 5, 2) := by decide +kernel
theorem dX5_enough_54 : decode cX5_enough 54 = .ok (.invokestatic 202, 3) := by decide +kernel
theorem dX5_enough_57 : decode cX5_enough 57 = .ok (.istore 6, 2) := by decide +kernel
theorem dX5_enough_59 : decode cX5_enough 59 = .ok (.aload_n 0, 1) := by decide +kernel
theorem dX5_enough_60 : decode cX5_enough 60 = .ok (.getfield 26, 3) := by decide +kernel
theorem dX5_enough_63 : decode cX5_enough 63 = .ok (.iload 5, 2) := by decide +kernel
theorem dX5_enough_65 : decode cX5_enough 65 = .ok (.invokevirtual 167, 3) := by decide +kernel
theorem dX5_enough_68 : decode cX5_enough 68 = .ok (.iload_n 1, 1) := by decide +kernel
theorem dX5_enough_69 : decode cX5_enough 69 = .ok (.if_icmp .lt 23, 3) := by decide +kernel
theorem dX5_enough_72 : decode cX5_enough 72 = .ok (.iload 4, 2) := by decide +kernel
theorem dX5_enough_74 : decode cX5_enough 74 = .ok (.ldc 220, 2) := by decide +kernel
theorem dX5_enough_76 : decode cX5_enough 76 = .ok (.if_icmp .eq 9, 3) := by decide +kernel
theorem dX5_enough_79 : decode cX5_enough 79 = .ok (.iload 6, 2) := by decide +kernel
theorem dX5_enough_81 : decode cX5_enough 81 = .ok (.iload_n 3, 1) := by decide +kernel
theorem dX5_enough_82 : decode cX5_enough 82 = .ok (.if_icmp .ge 10, 3) := by decide +kernel
theorem dX5_enough_85 : decode cX5_enough 85 = .ok (.iload 6, 2) := by decide +kernel
theorem dX5_enough_87 : decode cX5_enough 87 = .ok (.istore_n 3, 1) := by decide +kernel
theorem dX5_enough_88 : decode cX5_enough 88 = .ok (.iload 5, 2) := by decide +kernel
theorem dX5_enough_90 : decode cX5_enough 90 = .ok (.istore 4, 2) := by decide +kernel
theorem dX5_enough_92 : decode cX5_enough 92 = .ok (.iinc 5 1, 3) := by decide +kernel
theorem dX5_enough_95 : decode cX5_enough 95 = .ok (.goto (-55), 3) := by decide +kernel
theorem dX5_enough_98 : decode cX5_enough 98 = .ok (.iload_n 2, 1) := by decide +kernel
theorem dX5_enough_99 : decode cX5_enough 99 = .ok (.ifCond .ne 7, 3) := by decide +kernel
theorem dX5_enough_102 : decode cX5_enough 102 = .ok (.iload_n 3, 1) := by decide +kernel
theorem dX5_enough_103 : decode cX5_enough 103 = .ok (.goto 5, 3) := by decide +kernel
theorem dX5_enough_106 : decode cX5_enough 106 = .ok (.iload 4, 2) := by decide +kernel
theorem dX5_enough_108 : decode cX5_enough 108 = .ok (.ireturn, 1) := by decide +kernel
set_option maxRecDepth 20000 in
theorem ggX5_best_X4_stands : GoodIn wsX5_best wsX4_stands := goodIn_r _ [7, 8, 62, 63, 64, 65, 66, 67, 68, 69] (by decide +kernel) (by decide +kernel)
set_option maxRecDepth 20000 in
theorem gX5_best_X4_stands_n138 : GoodIn wsX5_best (wsX4_stands) := ggX5_best_X4_stands
set_option maxRecDepth 20000 in
theorem ggX5_best_X5_isZeroOrOne : GoodIn wsX5_best wsX5_isZeroOrOne := goodIn_r _ [12] (by decide +kernel) (by decide +kernel)
set_option maxRecDepth 20000 in
theorem gX5_best_X5_isZeroOrOne : GoodIn wsX5_best (va_wsS RX5 127 yX5_isZeroOrOne wsX5_isZeroOrOne) := goodIn_app (goodIn_of _ (by decide +kernel)) ggX5_best_X5_isZeroOrOne
set_option maxRecDepth 20000 in
theorem ggX5_best_X4_worthOfSet : GoodIn wsX5_best wsX4_worthOfSet := goodIn_r _ [15, 16, 17, 18, 19, 5, 20, 21, 22, 11, 23, 24, 25, 26, 27, 28, 29, 30, 31, 32, 33, 34, 35, 36, 37, 38, 39, 40, 41, 42, 43, 44, 45, 46, 47, 48, 62, 63, 64, 65, 66, 67, 68, 69] (by decide +kernel) (by decide +kernel)
set_option maxRecDepth 20000 in
theorem gX5_best_X4_worthOfSet_n167 : GoodIn wsX5_best (wsX4_worthOfSet) := ggX5_best_X4_worthOfSet
set_option maxRecDepth 20000 in
theorem ggX5_best_X4_everybody : GoodIn wsX5_best wsX4_everybody := goodIn_r _ [51, 8, 62, 63, 64, 65, 66, 67, 68, 69] (by decide +kernel) (by decide +kernel)
set_option maxRecDepth 20000 in
theorem gX5_best_X4_everybody_n189 : GoodIn wsX5_best (wsX4_everybody) := ggX5_best_X4_everybody
set_option maxRecDepth 20000 in
theorem ggX5_best_J6_bitCount_0f7a4 : GoodIn wsX5_best wsJ6_bitCount_0f7a4 := goodIn_r _ [45, 46, 47, 48] (by decide +kernel) (by decide +kernel)
set_option maxRecDepth 20000 in
theorem gX5_best_J6_bitCount_0f7a4 : GoodIn wsX5_best (va_wsS RX5 202 yJ6_bitCount_0f7a4 wsJ6_bitCount_0f7a4) := goodIn_app (goodIn_of _ (by decide +kernel)) ggX5_best_J6_bitCount_0f7a4
theorem dX5_best_0 : decode cX5_best 0 = .ok (.aload_n 0, 1) := by decide +kernel
theorem dX5_best_1 : decode cX5_best 1 = .ok (.getfield 26, 3) := by decide +kernel
theorem dX5_best_4 : decode cX5_best 4 = .ok (.invokevirtual 138, 3) := by decide +kernel
theorem dX5_best_7 : decode cX5_best 7 = .ok (.ifCond .ne 6, 3) := by decide +kernel
theorem dX5_best_10 : decode cX5_best 10 = .ok (.ldc 133, 2) := by decide +kernel
theorem dX5_best_12 : decode cX5_best 12 = .ok (.ireturn, 1) := by decide +kernel
theorem dX5_best_13 : decode cX5_best 13 = .ok (.iload_n 1, 1) := by decide +kernel
theorem dX5_best_14 : decode cX5_best 14 = .ok (.invokestatic 127, 3) := by decide +kernel
theorem dX5_best_17 : decode cX5_best 17 = .ok (.ifCond .ne 6, 3) := by decide +kernel
theorem dX5_best_20 : decode cX5_best 20 = .ok (.ldc 64, 2) := by decide +kernel
theorem dX5_best_22 : decode cX5_best 22 = .ok (.ireturn, 1) := by decide +kernel
theorem dX5_best_23 : decode cX5_best 23 = .ok (.iconst 0, 1) := by decide +kernel
theorem dX5_best_24 : decode cX5_best 24 = .ok (.istore_n 2, 1) := by decide +kernel
theorem dX5_best_25 : decode cX5_best 25 = .ok (.aload_n 0, 1) := by decide +kernel
theorem dX5_best_26 : decode cX5_best 26 = .ok (.getfield 26, 3) := by decide +kernel
theorem dX5_best_29 : decode cX5_best 29 = .ok (.iconst 0, 1) := by decide +kernel
theorem dX5_best_30 : decode cX5_best 30 = .ok (.invokevirtual 167, 3) := by decide +kernel
theorem dX5_best_33 : decode cX5_best 33 = .ok (.istore_n 3, 1) := by decide +kernel
theorem dX5_best_34 : decode cX5_best 34 = .ok (.iconst 1, 1) := by decide +kernel
theorem dX5_best_35 : decode cX5_best 35 = .ok (.istore 4, 2) := by decide +kernel
theorem dX5_best_37 : decode cX5_best 37 = .ok (.iload 4, 2) := by decide +kernel
theorem dX5_best_39 : decode cX5_best 39 = .ok (.aload_n 0, 1) := by decide +kernel
theorem dX5_best_40 : decode cX5_best 40 = .ok (.getfield 26, 3) := by decide +kernel
theorem dX5_best_43 : decode cX5_best 43 = .ok (.invokevirtual 189, 3) := by decide +kernel
theorem dX5_best_46 : decode cX5_best 46 = .ok (.if_icmp .gt 50, 3) := by decide +kernel
theorem dX5_best_49 : decode cX5_best 49 = .ok (.aload_n 0, 1) := by decide +kernel
theorem dX5_best_50 : decode cX5_best 50 = .ok (.getfield 26, 3) := by decide +kernel
theorem dX5_best_53 : decode cX5_best 53 = .ok (.iload 4, 2) := by decide +kernel
theorem dX5_best_55 : decode cX5_best 55 = .ok (.invokevirtual 167, 3) := by decide +kernel
theorem dX5_best_58 : decode cX5_best 58 = .ok (.istore 5, 2) := by decide +kernel
theorem dX5_best_60 : decode cX5_best 60 = .ok (.iload 5, 2) := by decide +kernel
theorem dX5_best_62 : decode cX5_best 62 = .ok (.iload_n 3, 1) := by decide +kernel
theorem dX5_best_63 : decode cX5_best 63 = .ok (.if_icmp .gt 21, 3) := by decide +kernel
theorem dX5_best_66 : decode cX5_best 66 = .ok (.iload 5, 2) := by decide +kernel
theorem dX5_best_68 : decode cX5_best 68 = .ok (.iload_n 3, 1) := by decide +kernel
theorem dX5_best_69 : decode cX5_best 69 = .ok (.if_icmp .ne 21, 3) := by decide +kernel
theorem dX5_best_72 : decode cX5_best 72 = .ok (.iload 4, 2) := by decide +kernel
theorem dX5_best_74 : decode cX5_best 74 = .ok (.invokestatic 202, 3) := by decide +kernel
theorem dX5_best_77 : decode cX5_best 77 = .ok (.iload_n 2, 1) := by decide +kernel
theorem dX5_best_78 : decode cX5_best 78 = .ok (.invokestatic 202, 3) := by decide +kernel
theorem dX5_best_81 : decode cX5_best 81 = .ok (.if_icmp .ge 9, 3) := by decide +kernel
theorem dX5_best_84 : decode cX5_best 84 = .ok (.iload 4, 2) := by decide +kernel
theorem dX5_best_86 : decode cX5_best 86 = .ok (.istore_n 2, 1) := by decide +kernel
theorem dX5_best_87 : decode cX5_best 87 = .ok (.iload 5, 2) := by decide +kernel
theorem dX5_best_89 : decode cX5_best 89 = .ok (.istore_n 3, 1) := by decide +kernel
theorem dX5_best_90 : decode cX5_best 90 = .ok (.iinc 4 1, 3) := by decide +kernel
theorem dX5_best_93 : decode cX5_best 93 = .ok (.goto (-56), 3) := by decide +kernel
theorem dX5_best_96 : decode cX5_best 96 = .ok (.iload_n 1, 1) := by decide +kernel
theorem dX5_best_97 : decode cX5_best 97 = .ok (.ifCond .ne 7, 3) := by decide +kernel
theorem dX5_best_100 : decode cX5_best 100 = .ok (.iload_n 2, 1) := by decide +kernel
theorem dX5_best_101 : decode cX5_best 101 = .ok (.goto 4, 3) := by decide +kernel
theorem dX5_best_104 : decode cX5_best 104 = .ok (.iload_n 3, 1) := by decide +kernel
theorem dX5_best_105 : decode cX5_best 105 = .ok (.ireturn, 1) := by decide +kernel
set_option maxRecDepth 20000 in
theorem ggX5_bring_X4_stands : GoodIn wsX5_bring wsX4_stands := goodIn_r _ [8, 9, 74, 75, 76, 77, 78, 79, 80, 81] (by decide +kernel) (by decide +kernel)
set_option maxRecDepth 20000 in
theorem gX5_bring_X4_stands_n138 : GoodIn wsX5_bring (wsX4_stands) := ggX5_bring_X4_stands
set_option maxRecDepth 20000 in
theorem ggX5_bring_X5_isZeroOrOne : GoodIn wsX5_bring wsX5_isZeroOrOne := goodIn_r _ [13] (by decide +kernel) (by decide +kernel)
set_option maxRecDepth 20000 in
theorem gX5_bring_X5_isZeroOrOne : GoodIn wsX5_bring (va_wsS RX5 127 yX5_isZeroOrOne wsX5_isZeroOrOne) := goodIn_app (goodIn_of _ (by decide +kernel)) ggX5_bring_X5_isZeroOrOne
set_option maxRecDepth 20000 in
theorem ggX5_bring_X5_has : GoodIn wsX5_bring wsX5_has := goodIn_r _ [16] (by decide +kernel) (by decide +kernel)
set_option maxRecDepth 20000 in
theorem gX5_bring_X5_has : GoodIn wsX5_bring (va_wsS RX5 192 yX5_has wsX5_has) := goodIn_app (goodIn_of _ (by decide +kernel)) ggX5_bring_X5_has
set_option maxRecDepth 20000 in
theorem ggX5_bring_X4_there : GoodIn wsX5_bring wsX4_there := goodIn_r _ [19, 20, 21, 22, 23, 6, 24, 9, 74, 75, 76, 77, 78, 79, 80, 81] (by decide +kernel) (by decide +kernel)
set_option maxRecDepth 20000 in
theorem gX5_bring_X4_there_n163 : GoodIn wsX5_bring (wsX4_there) := ggX5_bring_X4_there
set_option maxRecDepth 20000 in
theorem ggX5_bring_X4_addedBy : GoodIn wsX5_bring wsX4_addedBy := goodIn_r _ [27, 28, 29, 30, 6, 31, 32, 33, 34, 35, 36, 37, 38, 12, 39, 40, 41, 42, 43, 44, 45, 46, 47, 48, 49, 50, 51, 52, 53, 54, 55, 56, 57, 58, 59, 60, 61, 62, 63, 64, 74, 75, 76, 77, 78, 79, 80, 81] (by decide +kernel) (by decide +kernel)
set_option maxRecDepth 20000 in
theorem gX5_bring_X4_addedBy_n195 : GoodIn wsX5_bring (wsX4_addedBy) := ggX5_bring_X4_addedBy
theorem dX5_bring_0 : decode cX5_bring 0 = .ok (.aload_n 0, 1) := by decide +kernel
theorem dX5_bring_1 : decode cX5_bring 1 = .ok (.getfield 26, 3) := by decide +kernel
theorem dX5_bring_4 : decode cX5_bring 4 = .ok (.invokevirtual 138, 3) := by decide +kernel
theorem dX5_bring_7 : decode cX5_bring 7 = .ok (.ifCond .ne 6, 3) := by decide +kernel
theorem dX5_bring_10 : decode cX5_bring 10 = .ok (.ldc 133, 2) := by decide +kernel
theorem dX5_bring_12 : decode cX5_bring 12 = .ok (.ireturn, 1) := by decide +kernel
theorem dX5_bring_13 : decode cX5_bring 13 = .ok (.iload_n 1, 1) := by decide +kernel
theorem dX5_bring_14 : decode cX5_bring 14 = .ok (.invokestatic 127, 3) := by decide +kernel
theorem dX5_bring_17 : decode cX5_bring 17 = .ok (.ifCond .ne 6, 3) := by decide +kernel
theorem dX5_bring_20 : decode cX5_bring 20 = .ok (.ldc 64, 2) := by decide +kernel
theorem dX5_bring_22 : decode cX5_bring 22 = .ok (.ireturn, 1) := by decide +kernel
theorem dX5_bring_23 : decode cX5_bring 23 = .ok (.ldc 220, 2) := by decide +kernel
theorem dX5_bring_25 : decode cX5_bring 25 = .ok (.istore_n 2, 1) := by decide +kernel
theorem dX5_bring_26 : decode cX5_bring 26 = .ok (.ldc 220, 2) := by decide +kernel
theorem dX5_bring_28 : decode cX5_bring 28 = .ok (.istore_n 3, 1) := by decide +kernel
theorem dX5_bring_29 : decode cX5_bring 29 = .ok (.iconst 0, 1) := by decide +kernel
theorem dX5_bring_30 : decode cX5_bring 30 = .ok (.istore 4, 2) := by decide +kernel
theorem dX5_bring_32 : decode cX5_bring 32 = .ok (.iload 4, 2) := by decide +kernel
theorem dX5_bring_34 : decode cX5_bring 34 = .ok (.aload_n 0, 1) := by decide +kernel
theorem dX5_bring_35 : decode cX5_bring 35 = .ok (.getfield 26, 3) := by decide +kernel
theorem dX5_bring_38 : decode cX5_bring 38 = .ok (.getfield 199, 3) := by decide +kernel
theorem dX5_bring_41 : decode cX5_bring 41 = .ok (.if_icmp .ge 60, 3) := by decide +kernel
theorem dX5_bring_44 : decode cX5_bring 44 = .ok (.aload_n 0, 1) := by decide +kernel
theorem dX5_bring_45 : decode cX5_bring 45 = .ok (.getfield 26, 3) := by decide +kernel
theorem dX5_bring_48 : decode cX5_bring 48 = .ok (.getfield 130, 3) := by decide +kernel
theorem dX5_bring_51 : decode cX5_bring 51 = .ok (.iload 4, 2) := by decide +kernel
theorem dX5_bring_53 : decode cX5_bring 53 = .ok (.invokestatic 192, 3) := by decide +kernel
theorem dX5_bring_56 : decode cX5_bring 56 = .ok (.ifCond .eq 39, 3) := by decide +kernel
theorem dX5_bring_59 : decode cX5_bring 59 = .ok (.aload_n 0, 1) := by decide +kernel
theorem dX5_bring_60 : decode cX5_bring 60 = .ok (.getfield 26, 3) := by decide +kernel
theorem dX5_bring_63 : decode cX5_bring 63 = .ok (.iload 4, 2) := by decide +kernel
theorem dX5_bring_65 : decode cX5_bring 65 = .ok (.aload_n 0, 1) := by decide +kernel
theorem dX5_bring_66 : decode cX5_bring 66 = .ok (.getfield 26, 3) := by decide +kernel
theorem dX5_bring_69 : decode cX5_bring 69 = .ok (.invokevirtual 163, 3) := by decide +kernel
theorem dX5_bring_72 : decode cX5_bring 72 = .ok (.invokevirtual 195, 3) := by decide +kernel
theorem dX5_bring_75 : decode cX5_bring 75 = .ok (.istore 5, 2) := by decide +kernel
theorem dX5_bring_77 : decode cX5_bring 77 = .ok (.iload_n 2, 1) := by decide +kernel
theorem dX5_bring_78 : decode cX5_bring 78 = .ok (.ldc 220, 2) := by decide +kernel
theorem dX5_bring_80 : decode cX5_bring 80 = .ok (.if_icmp .eq 9, 3) := by decide +kernel
theorem dX5_bring_83 : decode cX5_bring 83 = .ok (.iload 5, 2) := by decide +kernel
theorem dX5_bring_85 : decode cX5_bring 85 = .ok (.iload_n 3, 1) := by decide +kernel
theorem dX5_bring_86 : decode cX5_bring 86 = .ok (.if_icmp .le 9, 3) := by decide +kernel
theorem dX5_bring_89 : decode cX5_bring 89 = .ok (.iload 4, 2) := by decide +kernel
theorem dX5_bring_91 : decode cX5_bring 91 = .ok (.istore_n 2, 1) := by decide +kernel
theorem dX5_bring_92 : decode cX5_bring 92 = .ok (.iload 5, 2) := by decide +kernel
theorem dX5_bring_94 : decode cX5_bring 94 = .ok (.istore_n 3, 1) := by decide +kernel
theorem dX5_bring_95 : decode cX5_bring 95 = .ok (.iinc 4 1, 3) := by decide +kernel
theorem dX5_bring_98 : decode cX5_bring 98 = .ok (.goto (-66), 3) := by decide +kernel
theorem dX5_bring_101 : decode cX5_bring 101 = .ok (.iload_n 1, 1) := by decide +kernel
theorem dX5_bring_102 : decode cX5_bring 102 = .ok (.ifCond .ne 7, 3) := by decide +kernel
theorem dX5_bring_105 : decode cX5_bring 105 = .ok (.iload_n 2, 1) := by decide +kernel
theorem dX5_bring_106 : decode cX5_bring 106 = .ok (.goto 4, 3) := by decide +kernel
theorem dX5_bring_109 : decode cX5_bring 109 = .ok (.iload_n 3, 1) := by decide +kernel
theorem dX5_bring_110 : decode cX5_bring 110 = .ok (.ireturn, 1) := by decide +kernel
set_option maxRecDepth 20000 in
theorem ggX5_which_X5_rowAt : GoodIn wsX5_which wsX5_rowAt := goodIn_r _ [7, 8, 84, 85, 86, 87, 88, 89, 90, 91, 92] (by decide +kernel) (by decide +kernel)
set_option maxRecDepth 20000 in
theorem gX5_which_X5_rowAt : GoodIn wsX5_which (wsV RX5 60 RX5 yX5_rowAt wsX5_rowAt) := goodIn_app (goodIn_of _ (by decide +kernel)) ggX5_which_X5_rowAt
set_option maxRecDepth 20000 in
theorem ggX5_which_X4_isTie : GoodIn wsX5_which wsX4_isTie := goodIn_r _ [12, 13, 97, 98, 99, 100, 101, 102, 103, 104] (by decide +kernel) (by decide +kernel)
set_option maxRecDepth 20000 in
theorem gX5_which_X4_isTie_n182 : GoodIn wsX5_which (wsX4_isTie) := ggX5_which_X4_isTie
set_option maxRecDepth 20000 in
theorem ggX5_which_X5_found : GoodIn wsX5_which wsX5_found := goodIn_r _ [17, 18, 19, 84, 85, 86, 87, 88, 89, 90, 91, 92] (by decide +kernel) (by decide +kernel)
set_option maxRecDepth 20000 in
theorem gX5_which_X5_found : GoodIn wsX5_which (wsV RX5 65 RX5 yX5_found wsX5_found) := goodIn_app (goodIn_of _ (by decide +kernel)) ggX5_which_X5_found
set_option maxRecDepth 20000 in
theorem ggX5_which_X3_holds : GoodIn wsX5_which wsX3_holds := goodIn_r _ [23, 24, 93, 94, 95, 96] (by decide +kernel) (by decide +kernel)
set_option maxRecDepth 20000 in
theorem gX5_which_X3_holds_n80 : GoodIn wsX5_which (wsX3_holds) := ggX5_which_X3_holds
set_option maxRecDepth 20000 in
theorem ggX5_which_X3_item : GoodIn wsX5_which wsX3_item := goodIn_r _ [27, 28, 29, 6, 30, 93, 94, 95, 96] (by decide +kernel) (by decide +kernel)
set_option maxRecDepth 20000 in
theorem gX5_which_X3_item_n87 : GoodIn wsX5_which (wsX3_item) := ggX5_which_X3_item
set_option maxRecDepth 20000 in
theorem ggX5_which_X4_isSet : GoodIn wsX5_which wsX4_isSet := goodIn_r _ [33, 34, 35, 36, 10, 37, 38, 97, 98, 99, 100, 101, 102, 103, 104] (by decide +kernel) (by decide +kernel)
set_option maxRecDepth 20000 in
theorem gX5_which_X4_isSet_n141 : GoodIn wsX5_which (wsX4_isSet) := ggX5_which_X4_isSet
set_option maxRecDepth 20000 in
theorem ggX5_which_X5_fits : GoodIn wsX5_which wsX5_fits := goodIn_r _ [42, 1, 25, 21, 26, 27, 28, 29, 6, 30, 43, 10, 44, 45, 46, 47, 48, 49, 13, 50, 51, 52, 53, 54, 55, 56, 57, 58, 59, 60, 61, 62, 63, 64, 65, 66, 67, 68, 69, 70, 71, 72, 73, 74, 75, 76, 77, 78, 79, 84, 85, 86, 87, 88, 89, 90, 91, 92, 93, 94, 95, 96, 97, 98, 99, 100, 101, 102, 103, 104] (by decide +kernel) (by decide +kernel)
set_option maxRecDepth 20000 in
theorem gX5_which_X5_fits : GoodIn wsX5_which (wsV RX5 227 RX5 yX5_fits wsX5_fits) := goodIn_app (goodIn_of _ (by decide +kernel)) ggX5_which_X5_fits
set_option maxRecDepth 20000 in
theorem ggX5_which_X5_well : GoodIn wsX5_which wsX5_well := goodIn_r _ [83, 18, 84, 85, 86, 87, 88, 89, 90, 91, 92] (by decide +kernel) (by decide +kernel)
set_option maxRecDepth 20000 in
theorem gX5_which_X5_well : GoodIn wsX5_which (wsV RX5 73 RX5 yX5_well wsX5_well) := goodIn_app (goodIn_of _ (by decide +kernel)) ggX5_which_X5_well
theorem dX5_which_0 : decode cX5_which 0 = .ok (.aload_n 0, 1) := by decide +kernel
theorem dX5_which_1 : decode cX5_which 1 = .ok (.iload_n 2, 1) := by decide +kernel
theorem dX5_which_2 : decode cX5_which 2 = .ok (.invokevirtual 60, 3) := by decide +kernel
theorem dX5_which_5 : decode cX5_which 5 = .ok (.astore 5, 2) := by decide +kernel
theorem dX5_which_7 : decode cX5_which 7 = .ok (.aload_n 0, 1) := by decide +kernel
theorem dX5_which_8 : decode cX5_which 8 = .ok (.getfield 26, 3) := by decide +kernel
theorem dX5_which_11 : decode cX5_which 11 = .ok (.iload_n 1, 1) := by decide +kernel
theorem dX5_which_12 : decode cX5_which 12 = .ok (.invokevirtual 182, 3) := by decide +kernel
theorem dX5_which_15 : decode cX5_which 15 = .ok (.ifCond .eq 20, 3) := by decide +kernel
theorem dX5_which_18 : decode cX5_which 18 = .ok (.aload 5, 2) := by decide +kernel
theorem dX5_which_20 : decode cX5_which 20 = .ok (.ifnull 15, 3) := by decide +kernel
theorem dX5_which_23 : decode cX5_which 23 = .ok (.iload 4, 2) := by decide +kernel
theorem dX5_which_25 : decode cX5_which 25 = .ok (.ifCond .lt 10, 3) := by decide +kernel
theorem dX5_which_28 : decode cX5_which 28 = .ok (.iload 4, 2) := by decide +kernel
theorem dX5_which_30 : decode cX5_which 30 = .ok (.bipush 10, 2) := by decide +kernel
theorem dX5_which_32 : decode cX5_which 32 = .ok (.if_icmp .le 6, 3) := by decide +kernel
theorem dX5_which_35 : decode cX5_which 35 = .ok (.ldc 64, 2) := by decide +kernel
theorem dX5_which_37 : decode cX5_which 37 = .ok (.ireturn, 1) := by decide +kernel
theorem dX5_which_38 : decode cX5_which 38 = .ok (.aload 5, 2) := by decide +kernel
theorem dX5_which_40 : decode cX5_which 40 = .ok (.getfield 76, 3) := by decide +kernel
theorem dX5_which_43 : decode cX5_which 43 = .ok (.ifCond .ne 9, 3) := by decide +kernel
theorem dX5_which_46 : decode cX5_which 46 = .ok (.aload_n 0, 1) := by decide +kernel
theorem dX5_which_47 : decode cX5_which 47 = .ok (.iconst 1, 1) := by decide +kernel
theorem dX5_which_48 : decode cX5_which 48 = .ok (.invokevirtual 65, 3) := by decide +kernel
theorem dX5_which_51 : decode cX5_which 51 = .ok (.ireturn, 1) := by decide +kernel
theorem dX5_which_52 : decode cX5_which 52 = .ok (.aload 5, 2) := by decide +kernel
theorem dX5_which_54 : decode cX5_which 54 = .ok (.iload_n 3, 1) := by decide +kernel
theorem dX5_which_55 : decode cX5_which 55 = .ok (.iconst 2, 1) := by decide +kernel
theorem dX5_which_56 : decode cX5_which 56 = .ok (.iload 4, 2) := by decide +kernel
theorem dX5_which_58 : decode cX5_which 58 = .ok (.imul, 1) := by decide +kernel
theorem dX5_which_59 : decode cX5_which 59 = .ok (.invokevirtual 80, 3) := by decide +kernel
theorem dX5_which_62 : decode cX5_which 62 = .ok (.ifCond .ne 9, 3) := by decide +kernel
theorem dX5_which_65 : decode cX5_which 65 = .ok (.aload_n 0, 1) := by decide +kernel
theorem dX5_which_66 : decode cX5_which 66 = .ok (.iconst 2, 1) := by decide +kernel
theorem dX5_which_67 : decode cX5_which 67 = .ok (.invokevirtual 65, 3) := by decide +kernel
theorem dX5_which_70 : decode cX5_which 70 = .ok (.ireturn, 1) := by decide +kernel
theorem dX5_which_71 : decode cX5_which 71 = .ok (.iconst 0, 1) := by decide +kernel
theorem dX5_which_72 : decode cX5_which 72 = .ok (.istore 6, 2) := by decide +kernel
theorem dX5_which_74 : decode cX5_which 74 = .ok (.iload 6, 2) := by decide +kernel
theorem dX5_which_76 : decode cX5_which 76 = .ok (.iload 4, 2) := by decide +kernel
theorem dX5_which_78 : decode cX5_which 78 = .ok (.if_icmp .ge 33, 3) := by decide +kernel
theorem dX5_which_81 : decode cX5_which 81 = .ok (.aload_n 0, 1) := by decide +kernel
theorem dX5_which_82 : decode cX5_which 82 = .ok (.getfield 26, 3) := by decide +kernel
theorem dX5_which_85 : decode cX5_which 85 = .ok (.aload 5, 2) := by decide +kernel
theorem dX5_which_87 : decode cX5_which 87 = .ok (.iload_n 3, 1) := by decide +kernel
theorem dX5_which_88 : decode cX5_which 88 = .ok (.iconst 2, 1) := by decide +kernel
theorem dX5_which_89 : decode cX5_which 89 = .ok (.iload 6, 2) := by decide +kernel
theorem dX5_which_91 : decode cX5_which 91 = .ok (.imul, 1) := by decide +kernel
theorem dX5_which_92 : decode cX5_which 92 = .ok (.iadd, 1) := by decide +kernel
theorem dX5_which_93 : decode cX5_which 93 = .ok (.invokevirtual 87, 3) := by decide +kernel
theorem dX5_which_96 : decode cX5_which 96 = .ok (.invokevirtual 141, 3) := by decide +kernel
theorem dX5_which_99 : decode cX5_which 99 = .ok (.ifCond .ne 6, 3) := by decide +kernel
theorem dX5_which_102 : decode cX5_which 102 = .ok (.ldc 64, 2) := by decide +kernel
theorem dX5_which_104 : decode cX5_which 104 = .ok (.ireturn, 1) := by decide +kernel
theorem dX5_which_105 : decode cX5_which 105 = .ok (.iinc 6 1, 3) := by decide +kernel
theorem dX5_which_108 : decode cX5_which 108 = .ok (.goto (-34), 3) := by decide +kernel
theorem dX5_which_111 : decode cX5_which 111 = .ok (.iconst 0, 1) := by decide +kernel
theorem dX5_which_112 : decode cX5_which 112 = .ok (.istore 6, 2) := by decide +kernel
theorem dX5_which_114 : decode cX5_which 114 = .ok (.iconst 1, 1) := by decide +kernel
theorem dX5_which_115 : decode cX5_which 115 = .ok (.istore 7, 2) := by decide +kernel
theorem dX5_which_117 : decode cX5_which 117 = .ok (.iload 7, 2) := by decide +kernel
theorem dX5_which_119 : decode cX5_which 119 = .ok (.iconst 5, 1) := by decide +kernel
theorem dX5_which_120 : decode cX5_which 120 = .ok (.if_icmp .gt 33, 3) := by decide +kernel
theorem dX5_which_123 : decode cX5_which 123 = .ok (.aload_n 0, 1) := by decide +kernel
theorem dX5_which_124 : decode cX5_which 124 = .ok (.iload_n 1, 1) := by decide +kernel
theorem dX5_which_125 : decode cX5_which 125 = .ok (.iload 7, 2) := by decide +kernel
theorem dX5_which_127 : decode cX5_which 127 = .ok (.aload 5, 2) := by decide +kernel
theorem dX5_which_129 : decode cX5_which 129 = .ok (.iload_n 3, 1) := by decide +kernel
theorem dX5_which_130 : decode cX5_which 130 = .ok (.iload 4, 2) := by decide +kernel
theorem dX5_which_132 : decode cX5_which 132 = .ok (.invokevirtual 227, 3) := by decide +kernel
theorem dX5_which_135 : decode cX5_which 135 = .ok (.ifCond .eq 12, 3) := by decide +kernel
theorem dX5_which_138 : decode cX5_which 138 = .ok (.iload 6, 2) := by decide +kernel
theorem dX5_which_140 : decode cX5_which 140 = .ok (.iconst 1, 1) := by decide +kernel
theorem dX5_which_141 : decode cX5_which 141 = .ok (.iload 7, 2) := by decide +kernel
theorem dX5_which_143 : decode cX5_which 143 = .ok (.ishl, 1) := by decide +kernel
theorem dX5_which_144 : decode cX5_which 144 = .ok (.ior, 1) := by decide +kernel
theorem dX5_which_145 : decode cX5_which 145 = .ok (.istore 6, 2) := by decide +kernel
theorem dX5_which_147 : decode cX5_which 147 = .ok (.iinc 7 1, 3) := by decide +kernel
theorem dX5_which_150 : decode cX5_which 150 = .ok (.goto (-33), 3) := by decide +kernel
theorem dX5_which_153 : decode cX5_which 153 = .ok (.aload_n 0, 1) := by decide +kernel
theorem dX5_which_154 : decode cX5_which 154 = .ok (.iload 6, 2) := by decide +kernel
theorem dX5_which_156 : decode cX5_which 156 = .ok (.invokevirtual 73, 3) := by decide +kernel
theorem dX5_which_159 : decode cX5_which 159 = .ok (.ireturn, 1) := by decide +kernel
set_option maxRecDepth 20000 in
theorem ggX5_colds_X4_stands : GoodIn wsX5_colds wsX4_stands := goodIn_r _ [7, 8, 82, 83, 84, 85, 86, 87, 88, 89] (by decide +kernel) (by decide +kernel)
set_option maxRecDepth 20000 in
theorem gX5_colds_X4_stands_n138 : GoodIn wsX5_colds (wsX4_stands) := ggX5_colds_X4_stands
set_option maxRecDepth 20000 in
theorem ggX5_colds_X5_isLookedFor : GoodIn wsX5_colds wsX5_isLookedFor := goodIn_r _ [12] (by decide +kernel) (by decide +kernel)
set_option maxRecDepth 20000 in
theorem gX5_colds_X5_isLookedFor : GoodIn wsX5_colds (va_wsS RX5 224 yX5_isLookedFor wsX5_isLookedFor) := goodIn_app (goodIn_of _ (by decide +kernel)) ggX5_colds_X5_isLookedFor
set_option maxRecDepth 20000 in
theorem ggX5_colds_X5_isZeroOrOne : GoodIn wsX5_colds wsX5_isZeroOrOne := goodIn_r _ [15] (by decide +kernel) (by decide +kernel)
set_option maxRecDepth 20000 in
theorem gX5_colds_X5_isZeroOrOne : GoodIn wsX5_colds (va_wsS RX5 127 yX5_isZeroOrOne wsX5_isZeroOrOne) := goodIn_app (goodIn_of _ (by decide +kernel)) ggX5_colds_X5_isZeroOrOne
set_option maxRecDepth 20000 in
theorem ggX5_colds_X4_there : GoodIn wsX5_colds wsX4_there := goodIn_r _ [18, 19, 20, 21, 22, 5, 23, 8, 82, 83, 84, 85, 86, 87, 88, 89] (by decide +kernel) (by decide +kernel)
set_option maxRecDepth 20000 in
theorem gX5_colds_X4_there_n163 : GoodIn wsX5_colds (wsX4_there) := ggX5_colds_X4_there
set_option maxRecDepth 20000 in
theorem ggX5_colds_J6_bitCount_0f7a4 : GoodIn wsX5_colds wsJ6_bitCount_0f7a4 := goodIn_r _ [27, 28, 29, 30] (by decide +kernel) (by decide +kernel)
set_option maxRecDepth 20000 in
theorem gX5_colds_J6_bitCount_0f7a4 : GoodIn wsX5_colds (va_wsS RX5 202 yJ6_bitCount_0f7a4 wsJ6_bitCount_0f7a4) := goodIn_app (goodIn_of _ (by decide +kernel)) ggX5_colds_J6_bitCount_0f7a4
set_option maxRecDepth 20000 in
theorem ggX5_colds_X4_everybody : GoodIn wsX5_colds wsX4_everybody := goodIn_r _ [23, 8, 82, 83, 84, 85, 86, 87, 88, 89] (by decide +kernel) (by decide +kernel)
set_option maxRecDepth 20000 in
theorem gX5_colds_X4_everybody_n189 : GoodIn wsX5_colds (wsX4_everybody) := ggX5_colds_X4_everybody
set_option maxRecDepth 20000 in
theorem ggX5_colds_X4_worthOfSet : GoodIn wsX5_colds wsX4_worthOfSet := goodIn_r _ [33, 34, 35, 36, 37, 5, 38, 39, 40, 11, 41, 42, 43, 44, 45, 46, 47, 48, 49, 50, 51, 52, 53, 54, 55, 56, 57, 58, 59, 60, 25, 26, 27, 28, 29, 30, 82, 83, 84, 85, 86, 87, 88, 89] (by decide +kernel) (by decide +kernel)
set_option maxRecDepth 20000 in
theorem gX5_colds_X4_worthOfSet_n167 : GoodIn wsX5_colds (wsX4_worthOfSet) := ggX5_colds_X4_worthOfSet
set_option maxRecDepth 20000 in
theorem ggX5_colds_X5_power : GoodIn wsX5_colds wsX5_power := goodIn_r _ [63] (by decide +kernel) (by decide +kernel)
set_option maxRecDepth 20000 in
theorem gX5_colds_X5_power : GoodIn wsX5_colds (va_wsS RX5 231 yX5_power wsX5_power) := goodIn_app (goodIn_of _ (by decide +kernel)) ggX5_colds_X5_power
set_option maxRecDepth 20000 in
theorem ggX5_colds_X5_fraction : GoodIn wsX5_colds wsX5_fraction := goodIn_r _ [66, 67, 68, 48, 69, 70, 71, 11, 72] (by decide +kernel) (by decide +kernel)
set_option maxRecDepth 20000 in
theorem gX5_colds_X5_fraction : GoodIn wsX5_colds (va_wsS RX5 210 yX5_fraction wsX5_fraction) := goodIn_app (goodIn_of _ (by decide +kernel)) ggX5_colds_X5_fraction
theorem dX5_colds_0 : decode cX5_colds 0 = .ok (.aload_n 0, 1) := by decide +kernel
theorem dX5_colds_1 : decode cX5_colds 1 = .ok (.getfield 26, 3) := by decide +kernel
theorem dX5_colds_4 : decode cX5_colds 4 = .ok (.invokevirtual 138, 3) := by decide +kernel
theorem dX5_colds_7 : decode cX5_colds 7 = .ok (.ifCond .ne 6, 3) := by decide +kernel
theorem dX5_colds_10 : decode cX5_colds 10 = .ok (.ldc 133, 2) := by decide +kernel
theorem dX5_colds_12 : decode cX5_colds 12 = .ok (.ireturn, 1) := by decide +kernel
theorem dX5_colds_13 : decode cX5_colds 13 = .ok (.iload_n 1, 1) := by decide +kernel
theorem dX5_colds_14 : decode cX5_colds 14 = .ok (.invokestatic 224, 3) := by decide +kernel
theorem dX5_colds_17 : decode cX5_colds 17 = .ok (.ifCond .eq 20, 3) := by decide +kernel
theorem dX5_colds_20 : decode cX5_colds 20 = .ok (.iload_n 2, 1) := by decide +kernel
theorem dX5_colds_21 : decode cX5_colds 21 = .ok (.ifCond .lt 16, 3) := by decide +kernel
theorem dX5_colds_24 : decode cX5_colds 24 = .ok (.iload_n 2, 1) := by decide +kernel
theorem dX5_colds_25 : decode cX5_colds 25 = .ok (.bipush 10, 2) := by decide +kernel
theorem dX5_colds_27 : decode cX5_colds 27 = .ok (.if_icmp .gt 10, 3) := by decide +kernel
theorem dX5_colds_30 : decode cX5_colds 30 = .ok (.iload_n 3, 1) := by decide +kernel
theorem dX5_colds_31 : decode cX5_colds 31 = .ok (.invokestatic 127, 3) := by decide +kernel
theorem dX5_colds_34 : decode cX5_colds 34 = .ok (.ifCond .ne 6, 3) := by decide +kernel
theorem dX5_colds_37 : decode cX5_colds 37 = .ok (.ldc 64, 2) := by decide +kernel
theorem dX5_colds_39 : decode cX5_colds 39 = .ok (.ireturn, 1) := by decide +kernel
theorem dX5_colds_40 : decode cX5_colds 40 = .ok (.aload_n 0, 1) := by decide +kernel
theorem dX5_colds_41 : decode cX5_colds 41 = .ok (.getfield 26, 3) := by decide +kernel
theorem dX5_colds_44 : decode cX5_colds 44 = .ok (.invokevirtual 163, 3) := by decide +kernel
theorem dX5_colds_47 : decode cX5_colds 47 = .ok (.istore 4, 2) := by decide +kernel
theorem dX5_colds_49 : decode cX5_colds 49 = .ok (.iload 4, 2) := by decide +kernel
theorem dX5_colds_51 : decode cX5_colds 51 = .ok (.invokestatic 202, 3) := by decide +kernel
theorem dX5_colds_54 : decode cX5_colds 54 = .ok (.istore 5, 2) := by decide +kernel
theorem dX5_colds_56 : decode cX5_colds 56 = .ok (.iconst 0, 1) := by decide +kernel
theorem dX5_colds_57 : decode cX5_colds 57 = .ok (.istore 6, 2) := by decide +kernel
theorem dX5_colds_59 : decode cX5_colds 59 = .ok (.iconst 0, 1) := by decide +kernel
theorem dX5_colds_60 : decode cX5_colds 60 = .ok (.istore 7, 2) := by decide +kernel
theorem dX5_colds_62 : decode cX5_colds 62 = .ok (.iload 7, 2) := by decide +kernel
theorem dX5_colds_64 : decode cX5_colds 64 = .ok (.aload_n 0, 1) := by decide +kernel
theorem dX5_colds_65 : decode cX5_colds 65 = .ok (.getfield 26, 3) := by decide +kernel
theorem dX5_colds_68 : decode cX5_colds 68 = .ok (.invokevirtual 189, 3) := by decide +kernel
theorem dX5_colds_71 : decode cX5_colds 71 = .ok (.if_icmp .gt 63, 3) := by decide +kernel
theorem dX5_colds_74 : decode cX5_colds 74 = .ok (.iload 7, 2) := by decide +kernel
theorem dX5_colds_76 : decode cX5_colds 76 = .ok (.iload 4, 2) := by decide +kernel
theorem dX5_colds_78 : decode cX5_colds 78 = .ok (.iconst (-1), 1) := by decide +kernel
theorem dX5_colds_79 : decode cX5_colds 79 = .ok (.ixor, 1) := by decide +kernel
theorem dX5_colds_80 : decode cX5_colds 80 = .ok (.iand, 1) := by decide +kernel
theorem dX5_colds_81 : decode cX5_colds 81 = .ok (.ifCond .ne 47, 3) := by decide +kernel
theorem dX5_colds_84 : decode cX5_colds 84 = .ok (.aload_n 0, 1) := by decide +kernel
theorem dX5_colds_85 : decode cX5_colds 85 = .ok (.getfield 26, 3) := by decide +kernel
theorem dX5_colds_88 : decode cX5_colds 88 = .ok (.iload 7, 2) := by decide +kernel
theorem dX5_colds_90 : decode cX5_colds 90 = .ok (.invokevirtual 167, 3) := by decide +kernel
theorem dX5_colds_93 : decode cX5_colds 93 = .ok (.iload_n 1, 1) := by decide +kernel
theorem dX5_colds_94 : decode cX5_colds 94 = .ok (.if_icmp .lt 34, 3) := by decide +kernel
theorem dX5_colds_97 : decode cX5_colds 97 = .ok (.iload 7, 2) := by decide +kernel
theorem dX5_colds_99 : decode cX5_colds 99 = .ok (.invokestatic 202, 3) := by decide +kernel
theorem dX5_colds_102 : decode cX5_colds 102 = .ok (.istore 8, 2) := by decide +kernel
theorem dX5_colds_104 : decode cX5_colds 104 = .ok (.iload 6, 2) := by decide +kernel
theorem dX5_colds_106 : decode cX5_colds 106 = .ok (.bipush 10, 2) := by decide +kernel
theorem dX5_colds_108 : decode cX5_colds 108 = .ok (.iload_n 2, 1) := by decide +kernel
theorem dX5_colds_109 : decode cX5_colds 109 = .ok (.isub, 1) := by decide +kernel
theorem dX5_colds_110 : decode cX5_colds 110 = .ok (.iload 8, 2) := by decide +kernel
theorem dX5_colds_112 : decode cX5_colds 112 = .ok (.invokestatic 231, 3) := by decide +kernel
theorem dX5_colds_115 : decode cX5_colds 115 = .ok (.iload_n 2, 1) := by decide +kernel
theorem dX5_colds_116 : decode cX5_colds 116 = .ok (.iload 5, 2) := by decide +kernel
theorem dX5_colds_118 : decode cX5_colds 118 = .ok (.iload 8, 2) := by decide +kernel
theorem dX5_colds_120 : decode cX5_colds 120 = .ok (.isub, 1) := by decide +kernel
theorem dX5_colds_121 : decode cX5_colds 121 = .ok (.invokestatic 231, 3) := by decide +kernel
theorem dX5_colds_124 : decode cX5_colds 124 = .ok (.imul, 1) := by decide +kernel
theorem dX5_colds_125 : decode cX5_colds 125 = .ok (.iadd, 1) := by decide +kernel
theorem dX5_colds_126 : decode cX5_colds 126 = .ok (.istore 6, 2) := by decide +kernel
theorem dX5_colds_128 : decode cX5_colds 128 = .ok (.iinc 7 1, 3) := by decide +kernel
theorem dX5_colds_131 : decode cX5_colds 131 = .ok (.goto (-69), 3) := by decide +kernel
theorem dX5_colds_134 : decode cX5_colds 134 = .ok (.iload 6, 2) := by decide +kernel
theorem dX5_colds_136 : decode cX5_colds 136 = .ok (.bipush 10, 2) := by decide +kernel
theorem dX5_colds_138 : decode cX5_colds 138 = .ok (.iload 5, 2) := by decide +kernel
theorem dX5_colds_140 : decode cX5_colds 140 = .ok (.invokestatic 231, 3) := by decide +kernel
theorem dX5_colds_143 : decode cX5_colds 143 = .ok (.iload_n 3, 1) := by decide +kernel
theorem dX5_colds_144 : decode cX5_colds 144 = .ok (.invokestatic 210, 3) := by decide +kernel
theorem dX5_colds_147 : decode cX5_colds 147 = .ok (.ireturn, 1) := by decide +kernel
set_option maxRecDepth 20000 in
theorem ggX5_image_X5_imageAt : GoodIn wsX5_image wsX5_imageAt := goodIn_r _ [8, 9, 29, 30, 31, 32, 33, 34, 35, 36, 37] (by decide +kernel) (by decide +kernel)
set_option maxRecDepth 20000 in
theorem gX5_image_X5_imageAt : GoodIn wsX5_image (wsV RX5 234 RX5 yX5_imageAt wsX5_imageAt) := goodIn_app (goodIn_of _ (by decide +kernel)) ggX5_image_X5_imageAt
set_option maxRecDepth 20000 in
theorem ggX5_image_X4_stands : GoodIn wsX5_image wsX4_stands := goodIn_r _ [13, 14, 38, 39, 40, 41, 42, 43, 44, 45] (by decide +kernel) (by decide +kernel)
set_option maxRecDepth 20000 in
theorem gX5_image_X4_stands_n138 : GoodIn wsX5_image (wsX4_stands) := ggX5_image_X4_stands
set_option maxRecDepth 20000 in
theorem ggX5_image_X4_become : GoodIn wsX5_image wsX4_become := goodIn_r _ [17, 18, 19, 20, 14, 21, 22, 23, 24, 25, 7, 26, 27, 28, 38, 39, 40, 41, 42, 43, 44, 45] (by decide +kernel) (by decide +kernel)
set_option maxRecDepth 20000 in
theorem gX5_image_X4_become_n114 : GoodIn wsX5_image (wsX4_become) := ggX5_image_X4_become
theorem dX5_image_0 : decode cX5_image 0 = .ok (.aload_n 0, 1) := by decide +kernel
theorem dX5_image_1 : decode cX5_image 1 = .ok (.iload_n 1, 1) := by decide +kernel
theorem dX5_image_2 : decode cX5_image 2 = .ok (.invokevirtual 234, 3) := by decide +kernel
theorem dX5_image_5 : decode cX5_image 5 = .ok (.astore_n 2, 1) := by decide +kernel
theorem dX5_image_6 : decode cX5_image 6 = .ok (.aload_n 2, 1) := by decide +kernel
theorem dX5_image_7 : decode cX5_image 7 = .ok (.ifnonnull 6, 3) := by decide +kernel
theorem dX5_image_10 : decode cX5_image 10 = .ok (.ldc 64, 2) := by decide +kernel
theorem dX5_image_12 : decode cX5_image 12 = .ok (.ireturn, 1) := by decide +kernel
theorem dX5_image_13 : decode cX5_image 13 = .ok (.aload_n 0, 1) := by decide +kernel
theorem dX5_image_14 : decode cX5_image 14 = .ok (.getfield 26, 3) := by decide +kernel
theorem dX5_image_17 : decode cX5_image 17 = .ok (.invokevirtual 138, 3) := by decide +kernel
theorem dX5_image_20 : decode cX5_image 20 = .ok (.ifCond .ne 6, 3) := by decide +kernel
theorem dX5_image_23 : decode cX5_image 23 = .ok (.ldc 133, 2) := by decide +kernel
theorem dX5_image_25 : decode cX5_image 25 = .ok (.ireturn, 1) := by decide +kernel
theorem dX5_image_26 : decode cX5_image 26 = .ok (.aload_n 2, 1) := by decide +kernel
theorem dX5_image_27 : decode cX5_image 27 = .ok (.aload_n 0, 1) := by decide +kernel
theorem dX5_image_28 : decode cX5_image 28 = .ok (.getfield 26, 3) := by decide +kernel
theorem dX5_image_31 : decode cX5_image 31 = .ok (.invokevirtual 114, 3) := by decide +kernel
theorem dX5_image_34 : decode cX5_image 34 = .ok (.iconst 1, 1) := by decide +kernel
theorem dX5_image_35 : decode cX5_image 35 = .ok (.ireturn, 1) := by decide +kernel
set_option maxRecDepth 20000 in
theorem ggX5_restore_X5_imageAt : GoodIn wsX5_restore wsX5_imageAt := goodIn_r _ [9, 10, 35, 36, 37, 38, 39, 40, 41, 42, 43] (by decide +kernel) (by decide +kernel)
set_option maxRecDepth 20000 in
theorem gX5_restore_X5_imageAt : GoodIn wsX5_restore (wsV RX5 234 RX5 yX5_imageAt wsX5_imageAt) := goodIn_app (goodIn_of _ (by decide +kernel)) ggX5_restore_X5_imageAt
set_option maxRecDepth 20000 in
theorem ggX5_restore_X4_stands : GoodIn wsX5_restore wsX4_stands := goodIn_r _ [14, 15, 44, 45, 46, 47, 48, 49, 50, 51] (by decide +kernel) (by decide +kernel)
set_option maxRecDepth 20000 in
theorem gX5_restore_X4_stands_n138 : GoodIn wsX5_restore (wsX4_stands) := ggX5_restore_X4_stands
set_option maxRecDepth 20000 in
theorem ggX5_restore_X4_become : GoodIn wsX5_restore wsX4_become := goodIn_r _ [18, 19, 20, 21, 15, 22, 23, 24, 25, 26, 8, 27, 28, 29, 44, 45, 46, 47, 48, 49, 50, 51] (by decide +kernel) (by decide +kernel)
set_option maxRecDepth 20000 in
theorem gX5_restore_X4_become_n114 : GoodIn wsX5_restore (wsX4_become) := ggX5_restore_X4_become
set_option maxRecDepth 20000 in
theorem ggX5_restore_X0_forgetAll : GoodIn wsX5_restore wsX0_forgetAll := goodIn_r _ [33, 34, 52, 53] (by decide +kernel) (by decide +kernel)
set_option maxRecDepth 20000 in
theorem gX5_restore_X0_forgetAll_n117 : GoodIn wsX5_restore (wsX0_forgetAll) := ggX5_restore_X0_forgetAll
theorem dX5_restore_0 : decode cX5_restore 0 = .ok (.aload_n 0, 1) := by decide +kernel
theorem dX5_restore_1 : decode cX5_restore 1 = .ok (.iload_n 1, 1) := by decide +kernel
theorem dX5_restore_2 : decode cX5_restore 2 = .ok (.invokevirtual 234, 3) := by decide +kernel
theorem dX5_restore_5 : decode cX5_restore 5 = .ok (.astore_n 2, 1) := by decide +kernel
theorem dX5_restore_6 : decode cX5_restore 6 = .ok (.aload_n 2, 1) := by decide +kernel
theorem dX5_restore_7 : decode cX5_restore 7 = .ok (.ifnonnull 6, 3) := by decide +kernel
theorem dX5_restore_10 : decode cX5_restore 10 = .ok (.ldc 64, 2) := by decide +kernel
theorem dX5_restore_12 : decode cX5_restore 12 = .ok (.ireturn, 1) := by decide +kernel
theorem dX5_restore_13 : decode cX5_restore 13 = .ok (.aload_n 2, 1) := by decide +kernel
theorem dX5_restore_14 : decode cX5_restore 14 = .ok (.invokevirtual 138, 3) := by decide +kernel
theorem dX5_restore_17 : decode cX5_restore 17 = .ok (.ifCond .ne 6, 3) := by decide +kernel
theorem dX5_restore_20 : decode cX5_restore 20 = .ok (.ldc 133, 2) := by decide +kernel
theorem dX5_restore_22 : decode cX5_restore 22 = .ok (.ireturn, 1) := by decide +kernel
theorem dX5_restore_23 : decode cX5_restore 23 = .ok (.aload_n 0, 1) := by decide +kernel
theorem dX5_restore_24 : decode cX5_restore 24 = .ok (.getfield 26, 3) := by decide +kernel
theorem dX5_restore_27 : decode cX5_restore 27 = .ok (.aload_n 2, 1) := by decide +kernel
theorem dX5_restore_28 : decode cX5_restore 28 = .ok (.invokevirtual 114, 3) := by decide +kernel
theorem dX5_restore_31 : decode cX5_restore 31 = .ok (.aload_n 0, 1) := by decide +kernel
theorem dX5_restore_32 : decode cX5_restore 32 = .ok (.getfield 40, 3) := by decide +kernel
theorem dX5_restore_35 : decode cX5_restore 35 = .ok (.invokevirtual 117, 3) := by decide +kernel
theorem dX5_restore_38 : decode cX5_restore 38 = .ok (.iconst 1, 1) := by decide +kernel
theorem dX5_restore_39 : decode cX5_restore 39 = .ok (.ireturn, 1) := by decide +kernel
set_option maxRecDepth 20000 in
theorem ggX5_kind_X4_isTie : GoodIn wsX5_kind wsX4_isTie := goodIn_r _ [6, 7, 24, 25, 26, 27, 28, 29, 30, 31] (by decide +kernel) (by decide +kernel)
set_option maxRecDepth 20000 in
theorem gX5_kind_X4_isTie_n182 : GoodIn wsX5_kind (wsX4_isTie) := ggX5_kind_X4_isTie
set_option maxRecDepth 20000 in
theorem ggX5_kind_X4_kindOf : GoodIn wsX5_kind wsX4_kindOf := goodIn_r _ [10, 11, 12, 13, 14, 24, 25, 26, 27, 28, 29, 30, 31] (by decide +kernel) (by decide +kernel)
set_option maxRecDepth 20000 in
theorem gX5_kind_X4_kindOf_n148 : GoodIn wsX5_kind (wsX4_kindOf) := ggX5_kind_X4_kindOf
theorem dX5_kind_0 : decode cX5_kind 0 = .ok (.aload_n 0, 1) := by decide +kernel
theorem dX5_kind_1 : decode cX5_kind 1 = .ok (.getfield 26, 3) := by decide +kernel
theorem dX5_kind_4 : decode cX5_kind 4 = .ok (.iload_n 1, 1) := by decide +kernel
theorem dX5_kind_5 : decode cX5_kind 5 = .ok (.invokevirtual 182, 3) := by decide +kernel
theorem dX5_kind_8 : decode cX5_kind 8 = .ok (.ifCond .eq 14, 3) := by decide +kernel
theorem dX5_kind_11 : decode cX5_kind 11 = .ok (.aload_n 0, 1) := by decide +kernel
theorem dX5_kind_12 : decode cX5_kind 12 = .ok (.getfield 26, 3) := by decide +kernel
theorem dX5_kind_15 : decode cX5_kind 15 = .ok (.iload_n 1, 1) := by decide +kernel
theorem dX5_kind_16 : decode cX5_kind 16 = .ok (.invokevirtual 148, 3) := by decide +kernel
theorem dX5_kind_19 : decode cX5_kind 19 = .ok (.goto 5, 3) := by decide +kernel
theorem dX5_kind_22 : decode cX5_kind 22 = .ok (.ldc 64, 2) := by decide +kernel
theorem dX5_kind_24 : decode cX5_kind 24 = .ok (.ireturn, 1) := by decide +kernel
set_option maxRecDepth 20000 in
theorem ggX5_as_X4_isTie : GoodIn wsX5_as wsX4_isTie := goodIn_r _ [6, 7, 40, 41, 42, 43, 44, 45, 46, 47] (by decide +kernel) (by decide +kernel)
set_option maxRecDepth 20000 in
theorem gX5_as_X4_isTie_n182 : GoodIn wsX5_as (wsX4_isTie) := ggX5_as_X4_isTie
set_option maxRecDepth 20000 in
theorem ggX5_as_X4_kindOf : GoodIn wsX5_as wsX4_kindOf := goodIn_r _ [10, 11, 12, 13, 14, 40, 41, 42, 43, 44, 45, 46, 47] (by decide +kernel) (by decide +kernel)
set_option maxRecDepth 20000 in
theorem gX5_as_X4_kindOf_n148 : GoodIn wsX5_as (wsX4_kindOf) := ggX5_as_X4_kindOf
set_option maxRecDepth 20000 in
theorem ggX5_as_X5_isA : GoodIn wsX5_as wsX5_isA := goodIn_r _ [17, 18, 19, 13, 20] (by decide +kernel) (by decide +kernel)
set_option maxRecDepth 20000 in
theorem gX5_as_X5_isA : GoodIn wsX5_as (va_wsS RX5 238 yX5_isA wsX5_isA) := goodIn_app (goodIn_of _ (by decide +kernel)) ggX5_as_X5_isA
set_option maxRecDepth 20000 in
theorem ggX5_as_X5_well : GoodIn wsX5_as wsX5_well := goodIn_r _ [24, 25, 31, 32, 33, 34, 35, 36, 37, 38, 39] (by decide +kernel) (by decide +kernel)
set_option maxRecDepth 20000 in
theorem gX5_as_X5_well : GoodIn wsX5_as (wsV RX5 73 RX5 yX5_well wsX5_well) := goodIn_app (goodIn_of _ (by decide +kernel)) ggX5_as_X5_well
set_option maxRecDepth 20000 in
theorem ggX5_as_X5_found : GoodIn wsX5_as wsX5_found := goodIn_r _ [29, 25, 30, 31, 32, 33, 34, 35, 36, 37, 38, 39] (by decide +kernel) (by decide +kernel)
set_option maxRecDepth 20000 in
theorem gX5_as_X5_found : GoodIn wsX5_as (wsV RX5 65 RX5 yX5_found wsX5_found) := goodIn_app (goodIn_of _ (by decide +kernel)) ggX5_as_X5_found
theorem dX5_as_0 : decode cX5_as 0 = .ok (.aload_n 0, 1) := by decide +kernel
theorem dX5_as_1 : decode cX5_as 1 = .ok (.getfield 26, 3) := by decide +kernel
theorem dX5_as_4 : decode cX5_as 4 = .ok (.iload_n 1, 1) := by decide +kernel
theorem dX5_as_5 : decode cX5_as 5 = .ok (.invokevirtual 182, 3) := by decide +kernel
theorem dX5_as_8 : decode cX5_as 8 = .ok (.ifCond .eq 12, 3) := by decide +kernel
theorem dX5_as_11 : decode cX5_as 11 = .ok (.iload_n 2, 1) := by decide +kernel
theorem dX5_as_12 : decode cX5_as 12 = .ok (.ifCond .lt 8, 3) := by decide +kernel
theorem dX5_as_15 : decode cX5_as 15 = .ok (.iload_n 2, 1) := by decide +kernel
theorem dX5_as_16 : decode cX5_as 16 = .ok (.iconst 5, 1) := by decide +kernel
theorem dX5_as_17 : decode cX5_as 17 = .ok (.if_icmp .le 6, 3) := by decide +kernel
theorem dX5_as_20 : decode cX5_as 20 = .ok (.ldc 64, 2) := by decide +kernel
theorem dX5_as_22 : decode cX5_as 22 = .ok (.ireturn, 1) := by decide +kernel
theorem dX5_as_23 : decode cX5_as 23 = .ok (.aload_n 0, 1) := by decide +kernel
theorem dX5_as_24 : decode cX5_as 24 = .ok (.getfield 26, 3) := by decide +kernel
theorem dX5_as_27 : decode cX5_as 27 = .ok (.iload_n 1, 1) := by decide +kernel
theorem dX5_as_28 : decode cX5_as 28 = .ok (.invokevirtual 148, 3) := by decide +kernel
theorem dX5_as_31 : decode cX5_as 31 = .ok (.iload_n 2, 1) := by decide +kernel
theorem dX5_as_32 : decode cX5_as 32 = .ok (.invokestatic 238, 3) := by decide +kernel
theorem dX5_as_35 : decode cX5_as 35 = .ok (.ifCond .eq 11, 3) := by decide +kernel
theorem dX5_as_38 : decode cX5_as 38 = .ok (.aload_n 0, 1) := by decide +kernel
theorem dX5_as_39 : decode cX5_as 39 = .ok (.iload_n 1, 1) := by decide +kernel
theorem dX5_as_40 : decode cX5_as 40 = .ok (.invokevirtual 73, 3) := by decide +kernel
theorem dX5_as_43 : decode cX5_as 43 = .ok (.goto 8, 3) := by decide +kernel
theorem dX5_as_46 : decode cX5_as 46 = .ok (.aload_n 0, 1) := by decide +kernel
theorem dX5_as_47 : decode cX5_as 47 = .ok (.iconst 3, 1) := by decide +kernel
theorem dX5_as_48 : decode cX5_as 48 = .ok (.invokevirtual 65, 3) := by decide +kernel
theorem dX5_as_51 : decode cX5_as 51 = .ok (.ireturn, 1) := by decide +kernel
set_option maxRecDepth 20000 in
theorem ggX5_ask_X4_isTie : GoodIn wsX5_ask wsX4_isTie := goodIn_r _ [7, 8, 100, 101, 102, 103, 104, 105, 106, 107] (by decide +kernel) (by decide +kernel)
set_option maxRecDepth 20000 in
theorem gX5_ask_X4_isTie_n182 : GoodIn wsX5_ask (wsX4_isTie) := ggX5_ask_X4_isTie
set_option maxRecDepth 20000 in
theorem ggX5_ask_X5_isZeroOrOne : GoodIn wsX5_ask wsX5_isZeroOrOne := goodIn_r _ [12] (by decide +kernel) (by decide +kernel)
set_option maxRecDepth 20000 in
theorem gX5_ask_X5_isZeroOrOne : GoodIn wsX5_ask (va_wsS RX5 127 yX5_isZeroOrOne wsX5_isZeroOrOne) := goodIn_app (goodIn_of _ (by decide +kernel)) ggX5_ask_X5_isZeroOrOne
set_option maxRecDepth 20000 in
theorem ggX5_ask_X1_begin : GoodIn wsX5_ask wsX1_begin := goodIn_r _ [16, 17, 108, 109, 110] (by decide +kernel) (by decide +kernel)
set_option maxRecDepth 20000 in
theorem gX5_ask_X1_begin_n241 : GoodIn wsX5_ask (wsX1_begin) := ggX5_ask_X1_begin
set_option maxRecDepth 20000 in
theorem ggX5_ask_X1_sizeOf : GoodIn wsX5_ask wsX1_sizeOf := goodIn_r _ [20, 21, 22, 5, 23, 24, 25, 26, 11, 27, 28, 29, 30, 31, 32, 33, 34, 35, 14, 36, 37, 38, 39, 40, 17, 41, 42, 43, 44, 45, 46, 47, 48, 49, 50, 51, 52, 53, 54, 55, 56, 57, 58, 59, 60, 61, 62, 63, 64, 65, 66, 67, 68, 69, 70, 71, 72, 73, 74, 75, 76, 77, 78, 79, 80, 81, 82, 83, 108, 109, 110, 100, 101, 102, 103, 104, 105, 106, 107] (by decide +kernel) (by decide +kernel)
set_option maxRecDepth 20000 in
theorem gX5_ask_X1_sizeOf_n243 : GoodIn wsX5_ask (wsX1_sizeOf) := ggX5_ask_X1_sizeOf
set_option maxRecDepth 20000 in
theorem ggX5_ask_X1_markOf : GoodIn wsX5_ask wsX1_markOf := goodIn_r _ [86, 21, 22, 5, 23, 24, 25, 26, 11, 27, 28, 29, 30, 31, 32, 52, 53, 54, 14, 55, 37, 38, 39, 40, 17, 41, 42, 43, 56, 57, 58, 59, 60, 61, 62, 63, 64, 65, 66, 67, 68, 69, 70, 71, 72, 73, 74, 75, 76, 77, 78, 79, 87, 88, 89, 90, 80, 81, 82, 83, 44, 45, 46, 47, 48, 49, 50, 51, 108, 109, 110, 100, 101, 102, 103, 104, 105, 106, 107] (by decide +kernel) (by decide +kernel)
set_option maxRecDepth 20000 in
theorem gX5_ask_X1_markOf_n246 : GoodIn wsX5_ask (wsX1_markOf) := ggX5_ask_X1_markOf
theorem dX5_ask_0 : decode cX5_ask 0 = .ok (.aload_n 0, 1) := by decide +kernel
theorem dX5_ask_1 : decode cX5_ask 1 = .ok (.getfield 26, 3) := by decide +kernel
theorem dX5_ask_4 : decode cX5_ask 4 = .ok (.iload_n 1, 1) := by decide +kernel
theorem dX5_ask_5 : decode cX5_ask 5 = .ok (.invokevirtual 182, 3) := by decide +kernel
theorem dX5_ask_8 : decode cX5_ask 8 = .ok (.ifCond .eq 10, 3) := by decide +kernel
theorem dX5_ask_11 : decode cX5_ask 11 = .ok (.iload_n 2, 1) := by decide +kernel
theorem dX5_ask_12 : decode cX5_ask 12 = .ok (.invokestatic 127, 3) := by decide +kernel
theorem dX5_ask_15 : decode cX5_ask 15 = .ok (.ifCond .ne 6, 3) := by decide +kernel
theorem dX5_ask_18 : decode cX5_ask 18 = .ok (.ldc 64, 2) := by decide +kernel
theorem dX5_ask_20 : decode cX5_ask 20 = .ok (.ireturn, 1) := by decide +kernel
theorem dX5_ask_21 : decode cX5_ask 21 = .ok (.aload_n 0, 1) := by decide +kernel
theorem dX5_ask_22 : decode cX5_ask 22 = .ok (.getfield 49, 3) := by decide +kernel
theorem dX5_ask_25 : decode cX5_ask 25 = .ok (.invokevirtual 241, 3) := by decide +kernel
theorem dX5_ask_28 : decode cX5_ask 28 = .ok (.iload_n 2, 1) := by decide +kernel
theorem dX5_ask_29 : decode cX5_ask 29 = .ok (.ifCond .ne 14, 3) := by decide +kernel
theorem dX5_ask_32 : decode cX5_ask 32 = .ok (.aload_n 0, 1) := by decide +kernel
theorem dX5_ask_33 : decode cX5_ask 33 = .ok (.getfield 49, 3) := by decide +kernel
theorem dX5_ask_36 : decode cX5_ask 36 = .ok (.iload_n 1, 1) := by decide +kernel
theorem dX5_ask_37 : decode cX5_ask 37 = .ok (.invokevirtual 243, 3) := by decide +kernel
theorem dX5_ask_40 : decode cX5_ask 40 = .ok (.goto 11, 3) := by decide +kernel
theorem dX5_ask_43 : decode cX5_ask 43 = .ok (.aload_n 0, 1) := by decide +kernel
theorem dX5_ask_44 : decode cX5_ask 44 = .ok (.getfield 49, 3) := by decide +kernel
theorem dX5_ask_47 : decode cX5_ask 47 = .ok (.iload_n 1, 1) := by decide +kernel
theorem dX5_ask_48 : decode cX5_ask 48 = .ok (.invokevirtual 246, 3) := by decide +kernel
theorem dX5_ask_51 : decode cX5_ask 51 = .ok (.ireturn, 1) := by decide +kernel
set_option maxRecDepth 20000 in
theorem ggX5_trace_X5_at : GoodIn wsX5_trace wsX5_at := goodIn_r _ [6] (by decide +kernel) (by decide +kernel)
set_option maxRecDepth 20000 in
theorem gX5_trace_X5_at : GoodIn wsX5_trace (va_wsS RX5 256 yX5_at wsX5_at) := goodIn_app (goodIn_of _ (by decide +kernel)) ggX5_trace_X5_at
theorem dX5_trace_0 : decode cX5_trace 0 = .ok (.iload_n 1, 1) := by decide +kernel
theorem dX5_trace_1 : decode cX5_trace 1 = .ok (.ifCond .lt 28, 3) := by decide +kernel
theorem dX5_trace_4 : decode cX5_trace 4 = .ok (.iload_n 1, 1) := by decide +kernel
theorem dX5_trace_5 : decode cX5_trace 5 = .ok (.aload_n 0, 1) := by decide +kernel
theorem dX5_trace_6 : decode cX5_trace 6 = .ok (.getfield 49, 3) := by decide +kernel
theorem dX5_trace_9 : decode cX5_trace 9 = .ok (.getfield 249, 3) := by decide +kernel
theorem dX5_trace_12 : decode cX5_trace 12 = .ok (.if_icmp .ge 17, 3) := by decide +kernel
theorem dX5_trace_15 : decode cX5_trace 15 = .ok (.aload_n 0, 1) := by decide +kernel
theorem dX5_trace_16 : decode cX5_trace 16 = .ok (.getfield 49, 3) := by decide +kernel
theorem dX5_trace_19 : decode cX5_trace 19 = .ok (.getfield 252, 3) := by decide +kernel
theorem dX5_trace_22 : decode cX5_trace 22 = .ok (.iload_n 1, 1) := by decide +kernel
theorem dX5_trace_23 : decode cX5_trace 23 = .ok (.invokestatic 256, 3) := by decide +kernel
theorem dX5_trace_26 : decode cX5_trace 26 = .ok (.goto 5, 3) := by decide +kernel
theorem dX5_trace_29 : decode cX5_trace 29 = .ok (.ldc 220, 2) := by decide +kernel
theorem dX5_trace_31 : decode cX5_trace 31 = .ok (.ireturn, 1) := by decide +kernel
set_option maxRecDepth 20000 in
theorem ggX5_count_X5_rowsThatStand : GoodIn wsX5_count wsX5_rowsThatStand := goodIn_r _ [9, 10, 11, 12, 8, 13, 14, 47, 48, 49, 50, 22, 23, 24, 25, 26, 27, 28, 29, 30] (by decide +kernel) (by decide +kernel)
set_option maxRecDepth 20000 in
theorem gX5_count_X5_rowsThatStand : GoodIn wsX5_count (wsV RX5 260 RX5 yX5_rowsThatStand wsX5_rowsThatStand) := goodIn_app (goodIn_of _ (by decide +kernel)) ggX5_count_X5_rowsThatStand
set_option maxRecDepth 20000 in
theorem ggX5_count_J6_bitCount_0f7a4 : GoodIn wsX5_count wsJ6_bitCount_0f7a4 := goodIn_r _ [18, 19, 20, 21] (by decide +kernel) (by decide +kernel)
set_option maxRecDepth 20000 in
theorem gX5_count_J6_bitCount_0f7a4 : GoodIn wsX5_count (va_wsS RX5 202 yJ6_bitCount_0f7a4 wsJ6_bitCount_0f7a4) := goodIn_app (goodIn_of _ (by decide +kernel)) ggX5_count_J6_bitCount_0f7a4
theorem dX5_count_0 : decode cX5_count 0 = .ok (.iload_n 1, 1) := by decide +kernel
theorem dX5_count_1 : decode cX5_count 1 = .ok (.tableswitch 99 0 6 #[43, 48, 56, 64, 72, 83, 91], 43) := by decide +kernel
theorem dX5_count_44 : decode cX5_count 44 = .ok (.aload_n 0, 1) := by decide +kernel
theorem dX5_count_45 : decode cX5_count 45 = .ok (.invokevirtual 260, 3) := by decide +kernel
theorem dX5_count_48 : decode cX5_count 48 = .ok (.ireturn, 1) := by decide +kernel
theorem dX5_count_49 : decode cX5_count 49 = .ok (.aload_n 0, 1) := by decide +kernel
theorem dX5_count_50 : decode cX5_count 50 = .ok (.getfield 26, 3) := by decide +kernel
theorem dX5_count_53 : decode cX5_count 53 = .ok (.getfield 199, 3) := by decide +kernel
theorem dX5_count_56 : decode cX5_count 56 = .ok (.ireturn, 1) := by decide +kernel
theorem dX5_count_57 : decode cX5_count 57 = .ok (.aload_n 0, 1) := by decide +kernel
theorem dX5_count_58 : decode cX5_count 58 = .ok (.getfield 26, 3) := by decide +kernel
theorem dX5_count_61 : decode cX5_count 61 = .ok (.getfield 120, 3) := by decide +kernel
theorem dX5_count_64 : decode cX5_count 64 = .ok (.ireturn, 1) := by decide +kernel
theorem dX5_count_65 : decode cX5_count 65 = .ok (.aload_n 0, 1) := by decide +kernel
theorem dX5_count_66 : decode cX5_count 66 = .ok (.getfield 26, 3) := by decide +kernel
theorem dX5_count_69 : decode cX5_count 69 = .ok (.getfield 160, 3) := by decide +kernel
theorem dX5_count_72 : decode cX5_count 72 = .ok (.ireturn, 1) := by decide +kernel
theorem dX5_count_73 : decode cX5_count 73 = .ok (.aload_n 0, 1) := by decide +kernel
theorem dX5_count_74 : decode cX5_count 74 = .ok (.getfield 26, 3) := by decide +kernel
theorem dX5_count_77 : decode cX5_count 77 = .ok (.getfield 130, 3) := by decide +kernel
theorem dX5_count_80 : decode cX5_count 80 = .ok (.invokestatic 202, 3) := by decide +kernel
theorem dX5_count_83 : decode cX5_count 83 = .ok (.ireturn, 1) := by decide +kernel
theorem dX5_count_84 : decode cX5_count 84 = .ok (.aload_n 0, 1) := by decide +kernel
theorem dX5_count_85 : decode cX5_count 85 = .ok (.getfield 40, 3) := by decide +kernel
theorem dX5_count_88 : decode cX5_count 88 = .ok (.getfield 173, 3) := by decide +kernel
theorem dX5_count_91 : decode cX5_count 91 = .ok (.ireturn, 1) := by decide +kernel
theorem dX5_count_92 : decode cX5_count 92 = .ok (.aload_n 0, 1) := by decide +kernel
theorem dX5_count_93 : decode cX5_count 93 = .ok (.getfield 19, 3) := by decide +kernel
theorem dX5_count_96 : decode cX5_count 96 = .ok (.getfield 100, 3) := by decide +kernel
theorem dX5_count_99 : decode cX5_count 99 = .ok (.ireturn, 1) := by decide +kernel
theorem dX5_count_100 : decode cX5_count 100 = .ok (.ldc 64, 2) := by decide +kernel
theorem dX5_count_102 : decode cX5_count 102 = .ok (.ireturn, 1) := by decide +kernel
theorem dX5_status_0 : decode cX5_status 0 = .ok (.aload_n 0, 1) := by decide +kernel
theorem dX5_status_1 : decode cX5_status 1 = .ok (.getfield 57, 3) := by decide +kernel
theorem dX5_status_4 : decode cX5_status 4 = .ok (.ireturn, 1) := by decide +kernel
theorem dX5_found_0 : decode cX5_found 0 = .ok (.aload_n 0, 1) := by decide +kernel
theorem dX5_found_1 : decode cX5_found 1 = .ok (.iload_n 1, 1) := by decide +kernel
theorem dX5_found_2 : decode cX5_found 2 = .ok (.putfield 57, 3) := by decide +kernel
theorem dX5_found_5 : decode cX5_found 5 = .ok (.ldc_w 263, 3) := by decide +kernel
theorem dX5_found_8 : decode cX5_found 8 = .ok (.iload_n 1, 1) := by decide +kernel
theorem dX5_found_9 : decode cX5_found 9 = .ok (.isub, 1) := by decide +kernel
theorem dX5_found_10 : decode cX5_found 10 = .ok (.ireturn, 1) := by decide +kernel
theorem dX5_well_0 : decode cX5_well 0 = .ok (.aload_n 0, 1) := by decide +kernel
theorem dX5_well_1 : decode cX5_well 1 = .ok (.iconst 0, 1) := by decide +kernel
theorem dX5_well_2 : decode cX5_well 2 = .ok (.putfield 57, 3) := by decide +kernel
theorem dX5_well_5 : decode cX5_well 5 = .ok (.iload_n 1, 1) := by decide +kernel
theorem dX5_well_6 : decode cX5_well 6 = .ok (.ireturn, 1) := by decide +kernel
theorem dX5_rowAt_0 : decode cX5_rowAt 0 = .ok (.iload_n 1, 1) := by decide +kernel
theorem dX5_rowAt_1 : decode cX5_rowAt 1 = .ok (.ifCond .lt 21, 3) := by decide +kernel
theorem dX5_rowAt_4 : decode cX5_rowAt 4 = .ok (.iload_n 1, 1) := by decide +kernel
theorem dX5_rowAt_5 : decode cX5_rowAt 5 = .ok (.aload_n 0, 1) := by decide +kernel
theorem dX5_rowAt_6 : decode cX5_rowAt 6 = .ok (.getfield 11, 3) := by decide +kernel
theorem dX5_rowAt_9 : decode cX5_rowAt 9 = .ok (.arraylength, 1) := by decide +kernel
theorem dX5_rowAt_10 : decode cX5_rowAt 10 = .ok (.if_icmp .ge 12, 3) := by decide +kernel
theorem dX5_rowAt_13 : decode cX5_rowAt 13 = .ok (.aload_n 0, 1) := by decide +kernel
theorem dX5_rowAt_14 : decode cX5_rowAt 14 = .ok (.getfield 11, 3) := by decide +kernel
theorem dX5_rowAt_17 : decode cX5_rowAt 17 = .ok (.iload_n 1, 1) := by decide +kernel
theorem dX5_rowAt_18 : decode cX5_rowAt 18 = .ok (.aaload, 1) := by decide +kernel
theorem dX5_rowAt_19 : decode cX5_rowAt 19 = .ok (.goto 4, 3) := by decide +kernel
theorem dX5_rowAt_22 : decode cX5_rowAt 22 = .ok (.aconst_null, 1) := by decide +kernel
theorem dX5_rowAt_23 : decode cX5_rowAt 23 = .ok (.areturn, 1) := by decide +kernel
theorem dX5_imageAt_0 : decode cX5_imageAt 0 = .ok (.iload_n 1, 1) := by decide +kernel
theorem dX5_imageAt_1 : decode cX5_imageAt 1 = .ok (.ifCond .lt 21, 3) := by decide +kernel
theorem dX5_imageAt_4 : decode cX5_imageAt 4 = .ok (.iload_n 1, 1) := by decide +kernel
theorem dX5_imageAt_5 : decode cX5_imageAt 5 = .ok (.aload_n 0, 1) := by decide +kernel
theorem dX5_imageAt_6 : decode cX5_imageAt 6 = .ok (.getfield 33, 3) := by decide +kernel
theorem dX5_imageAt_9 : decode cX5_imageAt 9 = .ok (.arraylength, 1) := by decide +kernel
theorem dX5_imageAt_10 : decode cX5_imageAt 10 = .ok (.if_icmp .ge 12, 3) := by decide +kernel
theorem dX5_imageAt_13 : decode cX5_imageAt 13 = .ok (.aload_n 0, 1) := by decide +kernel
theorem dX5_imageAt_14 : decode cX5_imageAt 14 = .ok (.getfield 33, 3) := by decide +kernel
theorem dX5_imageAt_17 : decode cX5_imageAt 17 = .ok (.iload_n 1, 1) := by decide +kernel
theorem dX5_imageAt_18 : decode cX5_imageAt 18 = .ok (.aaload, 1) := by decide +kernel
theorem dX5_imageAt_19 : decode cX5_imageAt 19 = .ok (.goto 4, 3) := by decide +kernel
theorem dX5_imageAt_22 : decode cX5_imageAt 22 = .ok (.aconst_null, 1) := by decide +kernel
theorem dX5_imageAt_23 : decode cX5_imageAt 23 = .ok (.areturn, 1) := by decide +kernel
set_option maxRecDepth 20000 in
theorem ggX5_rowsThatStand_X5_rowAt : GoodIn wsX5_rowsThatStand wsX5_rowAt := goodIn_r _ [5, 6, 11, 12, 13, 14, 15, 16, 17, 18, 19] (by decide +kernel) (by decide +kernel)
set_option maxRecDepth 20000 in
theorem gX5_rowsThatStand_X5_rowAt : GoodIn wsX5_rowsThatStand (wsV RX5 60 RX5 yX5_rowAt wsX5_rowAt) := goodIn_app (goodIn_of _ (by decide +kernel)) ggX5_rowsThatStand_X5_rowAt
theorem dX5_rowsThatStand_0 : decode cX5_rowsThatStand 0 = .ok (.iconst 0, 1) := by decide +kernel
theorem dX5_rowsThatStand_1 : decode cX5_rowsThatStand 1 = .ok (.istore_n 1, 1) := by decide +kernel
theorem dX5_rowsThatStand_2 : decode cX5_rowsThatStand 2 = .ok (.iconst 0, 1) := by decide +kernel
theorem dX5_rowsThatStand_3 : decode cX5_rowsThatStand 3 = .ok (.istore_n 2, 1) := by decide +kernel
theorem dX5_rowsThatStand_4 : decode cX5_rowsThatStand 4 = .ok (.iload_n 2, 1) := by decide +kernel
theorem dX5_rowsThatStand_5 : decode cX5_rowsThatStand 5 = .ok (.bipush 8, 2) := by decide +kernel
theorem dX5_rowsThatStand_7 : decode cX5_rowsThatStand 7 = .ok (.if_icmp .ge 29, 3) := by decide +kernel
theorem dX5_rowsThatStand_10 : decode cX5_rowsThatStand 10 = .ok (.aload_n 0, 1) := by decide +kernel
theorem dX5_rowsThatStand_11 : decode cX5_rowsThatStand 11 = .ok (.iload_n 2, 1) := by decide +kernel
theorem dX5_rowsThatStand_12 : decode cX5_rowsThatStand 12 = .ok (.invokevirtual 60, 3) := by decide +kernel
theorem dX5_rowsThatStand_15 : decode cX5_rowsThatStand 15 = .ok (.astore_n 3, 1) := by decide +kernel
theorem dX5_rowsThatStand_16 : decode cX5_rowsThatStand 16 = .ok (.aload_n 3, 1) := by decide +kernel
theorem dX5_rowsThatStand_17 : decode cX5_rowsThatStand 17 = .ok (.ifnull 13, 3) := by decide +kernel
theorem dX5_rowsThatStand_20 : decode cX5_rowsThatStand 20 = .ok (.aload_n 3, 1) := by decide +kernel
theorem dX5_rowsThatStand_21 : decode cX5_rowsThatStand 21 = .ok (.getfield 76, 3) := by decide +kernel
theorem dX5_rowsThatStand_24 : decode cX5_rowsThatStand 24 = .ok (.ifCond .eq 6, 3) := by decide +kernel
theorem dX5_rowsThatStand_27 : decode cX5_rowsThatStand 27 = .ok (.iinc 1 1, 3) := by decide +kernel
theorem dX5_rowsThatStand_30 : decode cX5_rowsThatStand 30 = .ok (.iinc 2 1, 3) := by decide +kernel
theorem dX5_rowsThatStand_33 : decode cX5_rowsThatStand 33 = .ok (.goto (-29), 3) := by decide +kernel
theorem dX5_rowsThatStand_36 : decode cX5_rowsThatStand 36 = .ok (.iload_n 1, 1) := by decide +kernel
theorem dX5_rowsThatStand_37 : decode cX5_rowsThatStand 37 = .ok (.ireturn, 1) := by decide +kernel
set_option maxRecDepth 20000 in
theorem ggX5_fits_X3_item : GoodIn wsX5_fits wsX3_item := goodIn_r _ [5, 6, 7, 8, 9, 58, 59, 60, 61] (by decide +kernel) (by decide +kernel)
set_option maxRecDepth 20000 in
theorem gX5_fits_X3_item_n87 : GoodIn wsX5_fits (wsX3_item) := ggX5_fits_X3_item
set_option maxRecDepth 20000 in
theorem ggX5_fits_X4_worthIfKind : GoodIn wsX5_fits wsX4_worthIfKind := goodIn_r _ [13, 14, 15, 16, 11, 17, 18, 19, 20, 21, 22, 23, 7, 8, 9, 24, 25, 26, 27, 28, 29, 30, 31, 32, 33, 34, 35, 36, 37, 38, 39, 40, 41, 42, 43, 44, 45, 46, 47, 48, 62, 63, 64, 65, 66, 67, 68, 69] (by decide +kernel) (by decide +kernel)
set_option maxRecDepth 20000 in
theorem gX5_fits_X4_worthIfKind_n264 : GoodIn wsX5_fits (wsX4_worthIfKind) := ggX5_fits_X4_worthIfKind
theorem dX5_fits_0 : decode cX5_fits 0 = .ok (.iconst 0, 1) := by decide +kernel
theorem dX5_fits_1 : decode cX5_fits 1 = .ok (.istore 6, 2) := by decide +kernel
theorem dX5_fits_3 : decode cX5_fits 3 = .ok (.iload 6, 2) := by decide +kernel
theorem dX5_fits_5 : decode cX5_fits 5 = .ok (.iload 5, 2) := by decide +kernel
theorem dX5_fits_7 : decode cX5_fits 7 = .ok (.if_icmp .ge 51, 3) := by decide +kernel
theorem dX5_fits_10 : decode cX5_fits 10 = .ok (.aload_n 3, 1) := by decide +kernel
theorem dX5_fits_11 : decode cX5_fits 11 = .ok (.iload 4, 2) := by decide +kernel
theorem dX5_fits_13 : decode cX5_fits 13 = .ok (.iconst 2, 1) := by decide +kernel
theorem dX5_fits_14 : decode cX5_fits 14 = .ok (.iload 6, 2) := by decide +kernel
theorem dX5_fits_16 : decode cX5_fits 16 = .ok (.imul, 1) := by decide +kernel
theorem dX5_fits_17 : decode cX5_fits 17 = .ok (.iadd, 1) := by decide +kernel
theorem dX5_fits_18 : decode cX5_fits 18 = .ok (.invokevirtual 87, 3) := by decide +kernel
theorem dX5_fits_21 : decode cX5_fits 21 = .ok (.istore 7, 2) := by decide +kernel
theorem dX5_fits_23 : decode cX5_fits 23 = .ok (.aload_n 0, 1) := by decide +kernel
theorem dX5_fits_24 : decode cX5_fits 24 = .ok (.getfield 26, 3) := by decide +kernel
theorem dX5_fits_27 : decode cX5_fits 27 = .ok (.iload 7, 2) := by decide +kernel
theorem dX5_fits_29 : decode cX5_fits 29 = .ok (.iload_n 1, 1) := by decide +kernel
theorem dX5_fits_30 : decode cX5_fits 30 = .ok (.iload_n 2, 1) := by decide +kernel
theorem dX5_fits_31 : decode cX5_fits 31 = .ok (.invokevirtual 264, 3) := by decide +kernel
theorem dX5_fits_34 : decode cX5_fits 34 = .ok (.aload_n 3, 1) := by decide +kernel
theorem dX5_fits_35 : decode cX5_fits 35 = .ok (.iload 4, 2) := by decide +kernel
theorem dX5_fits_37 : decode cX5_fits 37 = .ok (.iconst 2, 1) := by decide +kernel
theorem dX5_fits_38 : decode cX5_fits 38 = .ok (.iload 6, 2) := by decide +kernel
theorem dX5_fits_40 : decode cX5_fits 40 = .ok (.imul, 1) := by decide +kernel
theorem dX5_fits_41 : decode cX5_fits 41 = .ok (.iadd, 1) := by decide +kernel
theorem dX5_fits_42 : decode cX5_fits 42 = .ok (.iconst 1, 1) := by decide +kernel
theorem dX5_fits_43 : decode cX5_fits 43 = .ok (.iadd, 1) := by decide +kernel
theorem dX5_fits_44 : decode cX5_fits 44 = .ok (.invokevirtual 87, 3) := by decide +kernel
theorem dX5_fits_47 : decode cX5_fits 47 = .ok (.if_icmp .eq 5, 3) := by decide +kernel
theorem dX5_fits_50 : decode cX5_fits 50 = .ok (.iconst 0, 1) := by decide +kernel
theorem dX5_fits_51 : decode cX5_fits 51 = .ok (.ireturn, 1) := by decide +kernel
theorem dX5_fits_52 : decode cX5_fits 52 = .ok (.iinc 6 1, 3) := by decide +kernel
theorem dX5_fits_55 : decode cX5_fits 55 = .ok (.goto (-52), 3) := by decide +kernel
theorem dX5_fits_58 : decode cX5_fits 58 = .ok (.iconst 1, 1) := by decide +kernel
theorem dX5_fits_59 : decode cX5_fits 59 = .ok (.ireturn, 1) := by decide +kernel
theorem dX5_isZeroOrOne_0 : decode cX5_isZeroOrOne 0 = .ok (.iload_n 0, 1) := by decide +kernel
theorem dX5_isZeroOrOne_1 : decode cX5_isZeroOrOne 1 = .ok (.ifCond .eq 8, 3) := by decide +kernel
theorem dX5_isZeroOrOne_4 : decode cX5_isZeroOrOne 4 = .ok (.iload_n 0, 1) := by decide +kernel
theorem dX5_isZeroOrOne_5 : decode cX5_isZeroOrOne 5 = .ok (.iconst 1, 1) := by decide +kernel
theorem dX5_isZeroOrOne_6 : decode cX5_isZeroOrOne 6 = .ok (.if_icmp .ne 7, 3) := by decide +kernel
theorem dX5_isZeroOrOne_9 : decode cX5_isZeroOrOne 9 = .ok (.iconst 1, 1) := by decide +kernel
theorem dX5_isZeroOrOne_10 : decode cX5_isZeroOrOne 10 = .ok (.goto 4, 3) := by decide +kernel
theorem dX5_isZeroOrOne_13 : decode cX5_isZeroOrOne 13 = .ok (.iconst 0, 1) := by decide +kernel
theorem dX5_isZeroOrOne_14 : decode cX5_isZeroOrOne 14 = .ok (.ireturn, 1) := by decide +kernel
theorem dX5_isLookedFor_0 : decode cX5_isLookedFor 0 = .ok (.iload_n 0, 1) := by decide +kernel
theorem dX5_isLookedFor_1 : decode cX5_isLookedFor 1 = .ok (.sipush (-999), 3) := by decide +kernel
theorem dX5_isLookedFor_4 : decode cX5_isLookedFor 4 = .ok (.if_icmp .lt 14, 3) := by decide +kernel
theorem dX5_isLookedFor_7 : decode cX5_isLookedFor 7 = .ok (.iload_n 0, 1) := by decide +kernel
theorem dX5_isLookedFor_8 : decode cX5_isLookedFor 8 = .ok (.sipush 9999, 3) := by decide +kernel
theorem dX5_isLookedFor_11 : decode cX5_isLookedFor 11 = .ok (.if_icmp .gt 7, 3) := by decide +kernel
theorem dX5_isLookedFor_14 : decode cX5_isLookedFor 14 = .ok (.iconst 1, 1) := by decide +kernel
theorem dX5_isLookedFor_15 : decode cX5_isLookedFor 15 = .ok (.goto 4, 3) := by decide +kernel
theorem dX5_isLookedFor_18 : decode cX5_isLookedFor 18 = .ok (.iconst 0, 1) := by decide +kernel
theorem dX5_isLookedFor_19 : decode cX5_isLookedFor 19 = .ok (.ireturn, 1) := by decide +kernel
theorem dX5_has_0 : decode cX5_has 0 = .ok (.iload_n 0, 1) := by decide +kernel
theorem dX5_has_1 : decode cX5_has 1 = .ok (.iload_n 1, 1) := by decide +kernel
theorem dX5_has_2 : decode cX5_has 2 = .ok (.ishr, 1) := by decide +kernel
theorem dX5_has_3 : decode cX5_has 3 = .ok (.iconst 1, 1) := by decide +kernel
theorem dX5_has_4 : decode cX5_has 4 = .ok (.iand, 1) := by decide +kernel
theorem dX5_has_5 : decode cX5_has 5 = .ok (.iconst 1, 1) := by decide +kernel
theorem dX5_has_6 : decode cX5_has 6 = .ok (.if_icmp .ne 7, 3) := by decide +kernel
theorem dX5_has_9 : decode cX5_has 9 = .ok (.iconst 1, 1) := by decide +kernel
theorem dX5_has_10 : decode cX5_has 10 = .ok (.goto 4, 3) := by decide +kernel
theorem dX5_has_13 : decode cX5_has 13 = .ok (.iconst 0, 1) := by decide +kernel
theorem dX5_has_14 : decode cX5_has 14 = .ok (.ireturn, 1) := by decide +kernel
set_option maxRecDepth 20000 in
theorem ggX5_isA_X5_aboveOf : GoodIn wsX5_isA wsX5_aboveOf := goodIn_r _ [4] (by decide +kernel) (by decide +kernel)
set_option maxRecDepth 20000 in
theorem gX5_isA_X5_aboveOf : GoodIn wsX5_isA (va_wsS RX5 267 yX5_aboveOf wsX5_aboveOf) := goodIn_app (goodIn_of _ (by decide +kernel)) ggX5_isA_X5_aboveOf
theorem dX5_isA_0 : decode cX5_isA 0 = .ok (.iload_n 1, 1) := by decide +kernel
theorem dX5_isA_1 : decode cX5_isA 1 = .ok (.iload_n 0, 1) := by decide +kernel
theorem dX5_isA_2 : decode cX5_isA 2 = .ok (.if_icmp .eq 15, 3) := by decide +kernel
theorem dX5_isA_5 : decode cX5_isA 5 = .ok (.iload_n 1, 1) := by decide +kernel
theorem dX5_isA_6 : decode cX5_isA 6 = .ok (.ifCond .eq 11, 3) := by decide +kernel
theorem dX5_isA_9 : decode cX5_isA 9 = .ok (.iload_n 1, 1) := by decide +kernel
theorem dX5_isA_10 : decode cX5_isA 10 = .ok (.iload_n 0, 1) := by decide +kernel
theorem dX5_isA_11 : decode cX5_isA 11 = .ok (.invokestatic 267, 3) := by decide +kernel
theorem dX5_isA_14 : decode cX5_isA 14 = .ok (.if_icmp .ne 7, 3) := by decide +kernel
theorem dX5_isA_17 : decode cX5_isA 17 = .ok (.iconst 1, 1) := by decide +kernel
theorem dX5_isA_18 : decode cX5_isA 18 = .ok (.goto 4, 3) := by decide +kernel
theorem dX5_isA_21 : decode cX5_isA 21 = .ok (.iconst 0, 1) := by decide +kernel
theorem dX5_isA_22 : decode cX5_isA 22 = .ok (.ireturn, 1) := by decide +kernel
theorem dX5_aboveOf_0 : decode cX5_aboveOf 0 = .ok (.iload_n 0, 1) := by decide +kernel
theorem dX5_aboveOf_1 : decode cX5_aboveOf 1 = .ok (.tableswitch 35 2 5 #[31, 31, 35, 33], 31) := by decide +kernel
theorem dX5_aboveOf_32 : decode cX5_aboveOf 32 = .ok (.iconst 1, 1) := by decide +kernel
theorem dX5_aboveOf_33 : decode cX5_aboveOf 33 = .ok (.ireturn, 1) := by decide +kernel
theorem dX5_aboveOf_34 : decode cX5_aboveOf 34 = .ok (.iconst 4, 1) := by decide +kernel
theorem dX5_aboveOf_35 : decode cX5_aboveOf 35 = .ok (.ireturn, 1) := by decide +kernel
theorem dX5_aboveOf_36 : decode cX5_aboveOf 36 = .ok (.iconst 0, 1) := by decide +kernel
theorem dX5_aboveOf_37 : decode cX5_aboveOf 37 = .ok (.ireturn, 1) := by decide +kernel
theorem dX5_factorial_0 : decode cX5_factorial 0 = .ok (.iconst 1, 1) := by decide +kernel
theorem dX5_factorial_1 : decode cX5_factorial 1 = .ok (.istore_n 1, 1) := by decide +kernel
theorem dX5_factorial_2 : decode cX5_factorial 2 = .ok (.iconst 2, 1) := by decide +kernel
theorem dX5_factorial_3 : decode cX5_factorial 3 = .ok (.istore_n 2, 1) := by decide +kernel
theorem dX5_factorial_4 : decode cX5_factorial 4 = .ok (.iload_n 2, 1) := by decide +kernel
theorem dX5_factorial_5 : decode cX5_factorial 5 = .ok (.iload_n 0, 1) := by decide +kernel
theorem dX5_factorial_6 : decode cX5_factorial 6 = .ok (.if_icmp .gt 13, 3) := by decide +kernel
theorem dX5_factorial_9 : decode cX5_factorial 9 = .ok (.iload_n 1, 1) := by decide +kernel
theorem dX5_factorial_10 : decode cX5_factorial 10 = .ok (.iload_n 2, 1) := by decide +kernel
theorem dX5_factorial_11 : decode cX5_factorial 11 = .ok (.imul, 1) := by decide +kernel
theorem dX5_factorial_12 : decode cX5_factorial 12 = .ok (.istore_n 1, 1) := by decide +kernel
theorem dX5_factorial_13 : decode cX5_factorial 13 = .ok (.iinc 2 1, 3) := by decide +kernel
theorem dX5_factorial_16 : decode cX5_factorial 16 = .ok (.goto (-12), 3) := by decide +kernel
theorem dX5_factorial_19 : decode cX5_factorial 19 = .ok (.iload_n 1, 1) := by decide +kernel
theorem dX5_factorial_20 : decode cX5_factorial 20 = .ok (.ireturn, 1) := by decide +kernel
theorem dX5_power_0 : decode cX5_power 0 = .ok (.iconst 1, 1) := by decide +kernel
theorem dX5_power_1 : decode cX5_power 1 = .ok (.istore_n 2, 1) := by decide +kernel
theorem dX5_power_2 : decode cX5_power 2 = .ok (.iconst 0, 1) := by decide +kernel
theorem dX5_power_3 : decode cX5_power 3 = .ok (.istore_n 3, 1) := by decide +kernel
theorem dX5_power_4 : decode cX5_power 4 = .ok (.iload_n 3, 1) := by decide +kernel
theorem dX5_power_5 : decode cX5_power 5 = .ok (.iload_n 1, 1) := by decide +kernel
theorem dX5_power_6 : decode cX5_power 6 = .ok (.if_icmp .ge 13, 3) := by decide +kernel
theorem dX5_power_9 : decode cX5_power 9 = .ok (.iload_n 2, 1) := by decide +kernel
theorem dX5_power_10 : decode cX5_power 10 = .ok (.iload_n 0, 1) := by decide +kernel
theorem dX5_power_11 : decode cX5_power 11 = .ok (.imul, 1) := by decide +kernel
theorem dX5_power_12 : decode cX5_power 12 = .ok (.istore_n 2, 1) := by decide +kernel
theorem dX5_power_13 : decode cX5_power 13 = .ok (.iinc 3 1, 3) := by decide +kernel
theorem dX5_power_16 : decode cX5_power 16 = .ok (.goto (-12), 3) := by decide +kernel
theorem dX5_power_19 : decode cX5_power 19 = .ok (.iload_n 2, 1) := by decide +kernel
theorem dX5_power_20 : decode cX5_power 20 = .ok (.ireturn, 1) := by decide +kernel
set_option maxRecDepth 20000 in
theorem ggX5_fraction_X5_commonDivisor : GoodIn wsX5_fraction wsX5_commonDivisor := goodIn_r _ [8] (by decide +kernel) (by decide +kernel)
set_option maxRecDepth 20000 in
theorem gX5_fraction_X5_commonDivisor : GoodIn wsX5_fraction (va_wsS RX5 275 yX5_commonDivisor wsX5_commonDivisor) := goodIn_app (goodIn_of _ (by decide +kernel)) ggX5_fraction_X5_commonDivisor
theorem dX5_fraction_0 : decode cX5_fraction 0 = .ok (.iload_n 0, 1) := by decide +kernel
theorem dX5_fraction_1 : decode cX5_fraction 1 = .ok (.invokestatic 270, 3) := by decide +kernel
theorem dX5_fraction_4 : decode cX5_fraction 4 = .ok (.iload_n 1, 1) := by decide +kernel
theorem dX5_fraction_5 : decode cX5_fraction 5 = .ok (.invokestatic 275, 3) := by decide +kernel
theorem dX5_fraction_8 : decode cX5_fraction 8 = .ok (.istore_n 3, 1) := by decide +kernel
theorem dX5_fraction_9 : decode cX5_fraction 9 = .ok (.iload_n 3, 1) := by decide +kernel
theorem dX5_fraction_10 : decode cX5_fraction 10 = .ok (.ifCond .ne 5, 3) := by decide +kernel
theorem dX5_fraction_13 : decode cX5_fraction 13 = .ok (.iload_n 2, 1) := by decide +kernel
theorem dX5_fraction_14 : decode cX5_fraction 14 = .ok (.ireturn, 1) := by decide +kernel
theorem dX5_fraction_15 : decode cX5_fraction 15 = .ok (.iload_n 2, 1) := by decide +kernel
theorem dX5_fraction_16 : decode cX5_fraction 16 = .ok (.ifCond .ne 9, 3) := by decide +kernel
theorem dX5_fraction_19 : decode cX5_fraction 19 = .ok (.iload_n 0, 1) := by decide +kernel
theorem dX5_fraction_20 : decode cX5_fraction 20 = .ok (.iload_n 3, 1) := by decide +kernel
theorem dX5_fraction_21 : decode cX5_fraction 21 = .ok (.idiv, 1) := by decide +kernel
theorem dX5_fraction_22 : decode cX5_fraction 22 = .ok (.goto 6, 3) := by decide +kernel
theorem dX5_fraction_25 : decode cX5_fraction 25 = .ok (.iload_n 1, 1) := by decide +kernel
theorem dX5_fraction_26 : decode cX5_fraction 26 = .ok (.iload_n 3, 1) := by decide +kernel
theorem dX5_fraction_27 : decode cX5_fraction 27 = .ok (.idiv, 1) := by decide +kernel
theorem dX5_fraction_28 : decode cX5_fraction 28 = .ok (.ireturn, 1) := by decide +kernel
theorem dX5_commonDivisor_0 : decode cX5_commonDivisor 0 = .ok (.iload_n 0, 1) := by decide +kernel
theorem dX5_commonDivisor_1 : decode cX5_commonDivisor 1 = .ok (.istore_n 2, 1) := by decide +kernel
theorem dX5_commonDivisor_2 : decode cX5_commonDivisor 2 = .ok (.iload_n 1, 1) := by decide +kernel
theorem dX5_commonDivisor_3 : decode cX5_commonDivisor 3 = .ok (.istore_n 3, 1) := by decide +kernel
theorem dX5_commonDivisor_4 : decode cX5_commonDivisor 4 = .ok (.iconst 0, 1) := by decide +kernel
theorem dX5_commonDivisor_5 : decode cX5_commonDivisor 5 = .ok (.istore 4, 2) := by decide +kernel
theorem dX5_commonDivisor_7 : decode cX5_commonDivisor 7 = .ok (.iload 4, 2) := by decide +kernel
theorem dX5_commonDivisor_9 : decode cX5_commonDivisor 9 = .ok (.bipush 100, 2) := by decide +kernel
theorem dX5_commonDivisor_11 : decode cX5_commonDivisor 11 = .ok (.if_icmp .ge 23, 3) := by decide +kernel
theorem dX5_commonDivisor_14 : decode cX5_commonDivisor 14 = .ok (.iload_n 3, 1) := by decide +kernel
theorem dX5_commonDivisor_15 : decode cX5_commonDivisor 15 = .ok (.ifCond .eq 19, 3) := by decide +kernel
theorem dX5_commonDivisor_18 : decode cX5_commonDivisor 18 = .ok (.iload_n 2, 1) := by decide +kernel
theorem dX5_commonDivisor_19 : decode cX5_commonDivisor 19 = .ok (.iload_n 3, 1) := by decide +kernel
theorem dX5_commonDivisor_20 : decode cX5_commonDivisor 20 = .ok (.irem, 1) := by decide +kernel
theorem dX5_commonDivisor_21 : decode cX5_commonDivisor 21 = .ok (.istore 5, 2) := by decide +kernel
theorem dX5_commonDivisor_23 : decode cX5_commonDivisor 23 = .ok (.iload_n 3, 1) := by decide +kernel
theorem dX5_commonDivisor_24 : decode cX5_commonDivisor 24 = .ok (.istore_n 2, 1) := by decide +kernel
theorem dX5_commonDivisor_25 : decode cX5_commonDivisor 25 = .ok (.iload 5, 2) := by decide +kernel
theorem dX5_commonDivisor_27 : decode cX5_commonDivisor 27 = .ok (.istore_n 3, 1) := by decide +kernel
theorem dX5_commonDivisor_28 : decode cX5_commonDivisor 28 = .ok (.iinc 4 1, 3) := by decide +kernel
theorem dX5_commonDivisor_31 : decode cX5_commonDivisor 31 = .ok (.goto (-24), 3) := by decide +kernel
theorem dX5_commonDivisor_34 : decode cX5_commonDivisor 34 = .ok (.iload_n 2, 1) := by decide +kernel
theorem dX5_commonDivisor_35 : decode cX5_commonDivisor 35 = .ok (.ireturn, 1) := by decide +kernel
theorem dX5_at_0 : decode cX5_at 0 = .ok (.iload_n 1, 1) := by decide +kernel
theorem dX5_at_1 : decode cX5_at 1 = .ok (.ifCond .lt 15, 3) := by decide +kernel
theorem dX5_at_4 : decode cX5_at 4 = .ok (.iload_n 1, 1) := by decide +kernel
theorem dX5_at_5 : decode cX5_at 5 = .ok (.aload_n 0, 1) := by decide +kernel
theorem dX5_at_6 : decode cX5_at 6 = .ok (.arraylength, 1) := by decide +kernel
theorem dX5_at_7 : decode cX5_at 7 = .ok (.if_icmp .ge 9, 3) := by decide +kernel
theorem dX5_at_10 : decode cX5_at 10 = .ok (.aload_n 0, 1) := by decide +kernel
theorem dX5_at_11 : decode cX5_at 11 = .ok (.iload_n 1, 1) := by decide +kernel
theorem dX5_at_12 : decode cX5_at 12 = .ok (.iaload, 1) := by decide +kernel
theorem dX5_at_13 : decode cX5_at 13 = .ok (.goto 4, 3) := by decide +kernel
theorem dX5_at_16 : decode cX5_at 16 = .ok (.iconst 0, 1) := by decide +kernel
theorem dX5_at_17 : decode cX5_at 17 = .ok (.ireturn, 1) := by decide +kernel
theorem dX5_put_0 : decode cX5_put 0 = .ok (.iload_n 1, 1) := by decide +kernel
theorem dX5_put_1 : decode cX5_put 1 = .ok (.ifCond .lt 13, 3) := by decide +kernel
theorem dX5_put_4 : decode cX5_put 4 = .ok (.iload_n 1, 1) := by decide +kernel
theorem dX5_put_5 : decode cX5_put 5 = .ok (.aload_n 0, 1) := by decide +kernel
theorem dX5_put_6 : decode cX5_put 6 = .ok (.arraylength, 1) := by decide +kernel
theorem dX5_put_7 : decode cX5_put 7 = .ok (.if_icmp .ge 7, 3) := by decide +kernel
theorem dX5_put_10 : decode cX5_put 10 = .ok (.aload_n 0, 1) := by decide +kernel
theorem dX5_put_11 : decode cX5_put 11 = .ok (.iload_n 1, 1) := by decide +kernel
theorem dX5_put_12 : decode cX5_put 12 = .ok (.iload_n 2, 1) := by decide +kernel
theorem dX5_put_13 : decode cX5_put 13 = .ok (.iastore, 1) := by decide +kernel
theorem dX5_put_14 : decode cX5_put 14 = .ok (.return_, 1) := by decide +kernel
