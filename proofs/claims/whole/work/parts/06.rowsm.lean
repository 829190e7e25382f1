theorem dX6_init_0 : decode cX6_init 0 = .ok (.aload_n 0, 1) := by decide +kernel
theorem dX6_init_1 : decode cX6_init 1 = .ok (.invokespecial 1, 3) := by decide +kernel
theorem dX6_init_4 : decode cX6_init 4 = .ok (.aload_n 0, 1) := by decide +kernel
theorem dX6_init_5 : decode cX6_init 5 = .ok (.bipush 8, 2) := by decide +kernel
theorem dX6_init_7 : decode cX6_init 7 = .ok (.newarray .int, 2) := by decide +kernel
theorem dX6_init_9 : decode cX6_init 9 = .ok (.putfield 7, 3) := by decide +kernel
theorem dX6_init_12 : decode cX6_init 12 = .ok (.aload_n 0, 1) := by decide +kernel
theorem dX6_init_13 : decode cX6_init 13 = .ok (.bipush 8, 2) := by decide +kernel
theorem dX6_init_15 : decode cX6_init 15 = .ok (.newarray .int, 2) := by decide +kernel
theorem dX6_init_17 : decode cX6_init 17 = .ok (.putfield 13, 3) := by decide +kernel
theorem dX6_init_20 : decode cX6_init 20 = .ok (.aload_n 0, 1) := by decide +kernel
theorem dX6_init_21 : decode cX6_init 21 = .ok (.sipush 320, 3) := by decide +kernel
theorem dX6_init_24 : decode cX6_init 24 = .ok (.newarray .int, 2) := by decide +kernel
theorem dX6_init_26 : decode cX6_init 26 = .ok (.putfield 16, 3) := by decide +kernel
theorem dX6_init_29 : decode cX6_init 29 = .ok (.aload_n 0, 1) := by decide +kernel
theorem dX6_init_30 : decode cX6_init 30 = .ok (.bipush 29, 2) := by decide +kernel
theorem dX6_init_32 : decode cX6_init 32 = .ok (.newarray .int, 2) := by decide +kernel
theorem dX6_init_34 : decode cX6_init 34 = .ok (.putfield 19, 3) := by decide +kernel
theorem dX6_init_37 : decode cX6_init 37 = .ok (.aload_n 0, 1) := by decide +kernel
theorem dX6_init_38 : decode cX6_init 38 = .ok (.bipush 40, 2) := by decide +kernel
theorem dX6_init_40 : decode cX6_init 40 = .ok (.newarray .int, 2) := by decide +kernel
theorem dX6_init_42 : decode cX6_init 42 = .ok (.putfield 22, 3) := by decide +kernel
theorem dX6_init_45 : decode cX6_init 45 = .ok (.aload_n 0, 1) := by decide +kernel
theorem dX6_init_46 : decode cX6_init 46 = .ok (.bipush 120, 2) := by decide +kernel
theorem dX6_init_48 : decode cX6_init 48 = .ok (.newarray .int, 2) := by decide +kernel
theorem dX6_init_50 : decode cX6_init 50 = .ok (.putfield 25, 3) := by decide +kernel
theorem dX6_init_53 : decode cX6_init 53 = .ok (.aload_n 0, 1) := by decide +kernel
theorem dX6_init_54 : decode cX6_init 54 = .ok (.bipush 29, 2) := by decide +kernel
theorem dX6_init_56 : decode cX6_init 56 = .ok (.newarray .int, 2) := by decide +kernel
theorem dX6_init_58 : decode cX6_init 58 = .ok (.putfield 28, 3) := by decide +kernel
theorem dX6_init_61 : decode cX6_init 61 = .ok (.aload_n 0, 1) := by decide +kernel
theorem dX6_init_62 : decode cX6_init 62 = .ok (.sipush 696, 3) := by decide +kernel
theorem dX6_init_65 : decode cX6_init 65 = .ok (.newarray .int, 2) := by decide +kernel
theorem dX6_init_67 : decode cX6_init 67 = .ok (.putfield 31, 3) := by decide +kernel
theorem dX6_init_70 : decode cX6_init 70 = .ok (.aload_n 0, 1) := by decide +kernel
theorem dX6_init_71 : decode cX6_init 71 = .ok (.iconst 2, 1) := by decide +kernel
theorem dX6_init_72 : decode cX6_init 72 = .ok (.newarray .boolean, 2) := by decide +kernel
theorem dX6_init_74 : decode cX6_init 74 = .ok (.putfield 34, 3) := by decide +kernel
theorem dX6_init_77 : decode cX6_init 77 = .ok (.aload_n 0, 1) := by decide +kernel
theorem dX6_init_78 : decode cX6_init 78 = .ok (.bipush 58, 2) := by decide +kernel
theorem dX6_init_80 : decode cX6_init 80 = .ok (.newarray .int, 2) := by decide +kernel
theorem dX6_init_82 : decode cX6_init 82 = .ok (.putfield 38, 3) := by decide +kernel
theorem dX6_init_85 : decode cX6_init 85 = .ok (.aload_n 0, 1) := by decide +kernel
theorem dX6_init_86 : decode cX6_init 86 = .ok (.bipush 16, 2) := by decide +kernel
theorem dX6_init_88 : decode cX6_init 88 = .ok (.newarray .int, 2) := by decide +kernel
theorem dX6_init_90 : decode cX6_init 90 = .ok (.putfield 41, 3) := by decide +kernel
theorem dX6_init_93 : decode cX6_init 93 = .ok (.iconst 0, 1) := by decide +kernel
theorem dX6_init_94 : decode cX6_init 94 = .ok (.istore_n 1, 1) := by decide +kernel
theorem dX6_init_95 : decode cX6_init 95 = .ok (.iload_n 1, 1) := by decide +kernel
theorem dX6_init_96 : decode cX6_init 96 = .ok (.bipush 8, 2) := by decide +kernel
theorem dX6_init_98 : decode cX6_init 98 = .ok (.if_icmp .ge 16, 3) := by decide +kernel
theorem dX6_init_101 : decode cX6_init 101 = .ok (.aload_n 0, 1) := by decide +kernel
theorem dX6_init_102 : decode cX6_init 102 = .ok (.getfield 13, 3) := by decide +kernel
theorem dX6_init_105 : decode cX6_init 105 = .ok (.iload_n 1, 1) := by decide +kernel
theorem dX6_init_106 : decode cX6_init 106 = .ok (.iconst (-1), 1) := by decide +kernel
theorem dX6_init_107 : decode cX6_init 107 = .ok (.iastore, 1) := by decide +kernel
theorem dX6_init_108 : decode cX6_init 108 = .ok (.iinc 1 1, 3) := by decide +kernel
theorem dX6_init_111 : decode cX6_init 111 = .ok (.goto (-16), 3) := by decide +kernel
theorem dX6_init_114 : decode cX6_init 114 = .ok (.return_, 1) := by decide +kernel
theorem dX6_in_0 : decode cX6_in 0 = .ok (.lload_n 0, 1) := by decide +kernel
theorem dX6_in_1 : decode cX6_in 1 = .ok (.lload_n 2, 1) := by decide +kernel
theorem dX6_in_2 : decode cX6_in 2 = .ok (.lcmp, 1) := by decide +kernel
theorem dX6_in_3 : decode cX6_in 3 = .ok (.ifCond .lt 14, 3) := by decide +kernel
theorem dX6_in_6 : decode cX6_in 6 = .ok (.lload_n 0, 1) := by decide +kernel
theorem dX6_in_7 : decode cX6_in 7 = .ok (.lload 4, 2) := by decide +kernel
theorem dX6_in_9 : decode cX6_in 9 = .ok (.lcmp, 1) := by decide +kernel
theorem dX6_in_10 : decode cX6_in 10 = .ok (.ifCond .gt 7, 3) := by decide +kernel
theorem dX6_in_13 : decode cX6_in 13 = .ok (.iconst 1, 1) := by decide +kernel
theorem dX6_in_14 : decode cX6_in 14 = .ok (.goto 4, 3) := by decide +kernel
theorem dX6_in_17 : decode cX6_in 17 = .ok (.iconst 0, 1) := by decide +kernel
theorem dX6_in_18 : decode cX6_in 18 = .ok (.ireturn, 1) := by decide +kernel
theorem dX6_has_0 : decode cX6_has 0 = .ok (.iload_n 0, 1) := by decide +kernel
theorem dX6_has_1 : decode cX6_has 1 = .ok (.iload_n 1, 1) := by decide +kernel
theorem dX6_has_2 : decode cX6_has 2 = .ok (.ishr, 1) := by decide +kernel
theorem dX6_has_3 : decode cX6_has 3 = .ok (.iconst 1, 1) := by decide +kernel
theorem dX6_has_4 : decode cX6_has 4 = .ok (.iand, 1) := by decide +kernel
theorem dX6_has_5 : decode cX6_has 5 = .ok (.iconst 1, 1) := by decide +kernel
theorem dX6_has_6 : decode cX6_has 6 = .ok (.if_icmp .ne 7, 3) := by decide +kernel
theorem dX6_has_9 : decode cX6_has 9 = .ok (.iconst 1, 1) := by decide +kernel
theorem dX6_has_10 : decode cX6_has 10 = .ok (.goto 4, 3) := by decide +kernel
theorem dX6_has_13 : decode cX6_has 13 = .ok (.iconst 0, 1) := by decide +kernel
theorem dX6_has_14 : decode cX6_has 14 = .ok (.ireturn, 1) := by decide +kernel
theorem dX6_ones_0 : decode cX6_ones 0 = .ok (.iconst 0, 1) := by decide +kernel
theorem dX6_ones_1 : decode cX6_ones 1 = .ok (.istore_n 1, 1) := by decide +kernel
theorem dX6_ones_2 : decode cX6_ones 2 = .ok (.iload_n 0, 1) := by decide +kernel
theorem dX6_ones_3 : decode cX6_ones 3 = .ok (.istore_n 2, 1) := by decide +kernel
theorem dX6_ones_4 : decode cX6_ones 4 = .ok (.iload_n 2, 1) := by decide +kernel
theorem dX6_ones_5 : decode cX6_ones 5 = .ok (.ifCond .eq 15, 3) := by decide +kernel
theorem dX6_ones_8 : decode cX6_ones 8 = .ok (.iinc 1 1, 3) := by decide +kernel
theorem dX6_ones_11 : decode cX6_ones 11 = .ok (.iload_n 2, 1) := by decide +kernel
theorem dX6_ones_12 : decode cX6_ones 12 = .ok (.iload_n 2, 1) := by decide +kernel
theorem dX6_ones_13 : decode cX6_ones 13 = .ok (.iconst 1, 1) := by decide +kernel
theorem dX6_ones_14 : decode cX6_ones 14 = .ok (.isub, 1) := by decide +kernel
theorem dX6_ones_15 : decode cX6_ones 15 = .ok (.iand, 1) := by decide +kernel
theorem dX6_ones_16 : decode cX6_ones 16 = .ok (.istore_n 2, 1) := by decide +kernel
theorem dX6_ones_17 : decode cX6_ones 17 = .ok (.goto (-13), 3) := by decide +kernel
theorem dX6_ones_20 : decode cX6_ones 20 = .ok (.iload_n 1, 1) := by decide +kernel
theorem dX6_ones_21 : decode cX6_ones 21 = .ok (.ireturn, 1) := by decide +kernel
theorem dX6_find_0 : decode cX6_find 0 = .ok (.aload_n 0, 1) := by decide +kernel
theorem dX6_find_1 : decode cX6_find 1 = .ok (.iload_n 1, 1) := by decide +kernel
theorem dX6_find_2 : decode cX6_find 2 = .ok (.putfield 44, 3) := by decide +kernel
theorem dX6_find_5 : decode cX6_find 5 = .ok (.ldc 48, 2) := by decide +kernel
theorem dX6_find_7 : decode cX6_find 7 = .ok (.iload_n 1, 1) := by decide +kernel
theorem dX6_find_8 : decode cX6_find 8 = .ok (.isub, 1) := by decide +kernel
theorem dX6_find_9 : decode cX6_find 9 = .ok (.ireturn, 1) := by decide +kernel
theorem dX6_well_0 : decode cX6_well 0 = .ok (.aload_n 0, 1) := by decide +kernel
theorem dX6_well_1 : decode cX6_well 1 = .ok (.iconst 0, 1) := by decide +kernel
theorem dX6_well_2 : decode cX6_well 2 = .ok (.putfield 44, 3) := by decide +kernel
theorem dX6_well_5 : decode cX6_well 5 = .ok (.iload_n 1, 1) := by decide +kernel
theorem dX6_well_6 : decode cX6_well 6 = .ok (.ireturn, 1) := by decide +kernel
set_option maxRecDepth 20000 in
theorem ggX6_isRow_X6_in : GoodIn wsX6_isRow wsX6_in := goodIn_r _ [5] (by decide +kernel) (by decide +kernel)
set_option maxRecDepth 20000 in
theorem gX6_isRow_X6_in : GoodIn wsX6_isRow (va_wsS RX6 51 yX6_in wsX6_in) := goodIn_app (goodIn_of _ (by decide +kernel)) ggX6_isRow_X6_in
theorem dX6_isRow_0 : decode cX6_isRow 0 = .ok (.iload_n 0, 1) := by decide +kernel
theorem dX6_isRow_1 : decode cX6_isRow 1 = .ok (.i2l, 1) := by decide +kernel
theorem dX6_isRow_2 : decode cX6_isRow 2 = .ok (.lconst 0, 1) := by decide +kernel
theorem dX6_isRow_3 : decode cX6_isRow 3 = .ok (.ldc2_w 49, 3) := by decide +kernel
theorem dX6_isRow_6 : decode cX6_isRow 6 = .ok (.invokestatic 51, 3) := by decide +kernel
theorem dX6_isRow_9 : decode cX6_isRow 9 = .ok (.ireturn, 1) := by decide +kernel
set_option maxRecDepth 20000 in
theorem ggX6_row_X6_isRow : GoodIn wsX6_row wsX6_isRow := goodIn_r _ [9, 10, 11, 12, 8, 13] (by decide +kernel) (by decide +kernel)
set_option maxRecDepth 20000 in
theorem gX6_row_X6_isRow : GoodIn wsX6_row (va_wsS RX6 55 yX6_isRow wsX6_isRow) := goodIn_app (goodIn_of _ (by decide +kernel)) ggX6_row_X6_isRow
set_option maxRecDepth 20000 in
theorem ggX6_row_X6_in : GoodIn wsX6_row wsX6_in := goodIn_r _ [13] (by decide +kernel) (by decide +kernel)
set_option maxRecDepth 20000 in
theorem gX6_row_X6_in : GoodIn wsX6_row (va_wsS RX6 51 yX6_in wsX6_in) := goodIn_app (goodIn_of _ (by decide +kernel)) ggX6_row_X6_in
set_option maxRecDepth 20000 in
theorem ggX6_row_X6_find : GoodIn wsX6_row wsX6_find := goodIn_r _ [17, 18, 19, 24, 25, 26, 27, 28, 29, 30, 31, 32, 33, 34, 35, 36, 37, 38, 39, 40, 41, 42, 43, 44, 45] (by decide +kernel) (by decide +kernel)
set_option maxRecDepth 20000 in
theorem gX6_row_X6_find : GoodIn wsX6_row (wsV RX6 62 RX6 yX6_find wsX6_find) := goodIn_app (goodIn_of _ (by decide +kernel)) ggX6_row_X6_find
set_option maxRecDepth 20000 in
theorem ggX6_row_X6_well : GoodIn wsX6_row wsX6_well := goodIn_r _ [23, 18, 24, 25, 26, 27, 28, 29, 30, 31, 32, 33, 34, 35, 36, 37, 38, 39, 40, 41, 42, 43, 44, 45] (by decide +kernel) (by decide +kernel)
set_option maxRecDepth 20000 in
theorem gX6_row_X6_well : GoodIn wsX6_row (wsV RX6 66 RX6 yX6_well wsX6_well) := goodIn_app (goodIn_of _ (by decide +kernel)) ggX6_row_X6_well
theorem dX6_row_0 : decode cX6_row 0 = .ok (.iload_n 1, 1) := by decide +kernel
theorem dX6_row_1 : decode cX6_row 1 = .ok (.invokestatic 55, 3) := by decide +kernel
theorem dX6_row_4 : decode cX6_row 4 = .ok (.ifCond .eq 21, 3) := by decide +kernel
theorem dX6_row_7 : decode cX6_row 7 = .ok (.iload_n 2, 1) := by decide +kernel
theorem dX6_row_8 : decode cX6_row 8 = .ok (.i2l, 1) := by decide +kernel
theorem dX6_row_9 : decode cX6_row 9 = .ok (.lconst 0, 1) := by decide +kernel
theorem dX6_row_10 : decode cX6_row 10 = .ok (.ldc2_w 59, 3) := by decide +kernel
theorem dX6_row_13 : decode cX6_row 13 = .ok (.invokestatic 51, 3) := by decide +kernel
theorem dX6_row_16 : decode cX6_row 16 = .ok (.ifCond .eq 9, 3) := by decide +kernel
theorem dX6_row_19 : decode cX6_row 19 = .ok (.iload_n 3, 1) := by decide +kernel
theorem dX6_row_20 : decode cX6_row 20 = .ok (.bipush 40, 2) := by decide +kernel
theorem dX6_row_22 : decode cX6_row 22 = .ok (.if_icmp .le 6, 3) := by decide +kernel
theorem dX6_row_25 : decode cX6_row 25 = .ok (.ldc 61, 2) := by decide +kernel
theorem dX6_row_27 : decode cX6_row 27 = .ok (.ireturn, 1) := by decide +kernel
theorem dX6_row_28 : decode cX6_row 28 = .ok (.iload_n 3, 1) := by decide +kernel
theorem dX6_row_29 : decode cX6_row 29 = .ok (.ifCond .ge 9, 3) := by decide +kernel
theorem dX6_row_32 : decode cX6_row 32 = .ok (.aload_n 0, 1) := by decide +kernel
theorem dX6_row_33 : decode cX6_row 33 = .ok (.iconst 4, 1) := by decide +kernel
theorem dX6_row_34 : decode cX6_row 34 = .ok (.invokevirtual 62, 3) := by decide +kernel
theorem dX6_row_37 : decode cX6_row 37 = .ok (.ireturn, 1) := by decide +kernel
theorem dX6_row_38 : decode cX6_row 38 = .ok (.aload_n 0, 1) := by decide +kernel
theorem dX6_row_39 : decode cX6_row 39 = .ok (.getfield 7, 3) := by decide +kernel
theorem dX6_row_42 : decode cX6_row 42 = .ok (.iload_n 1, 1) := by decide +kernel
theorem dX6_row_43 : decode cX6_row 43 = .ok (.iload_n 2, 1) := by decide +kernel
theorem dX6_row_44 : decode cX6_row 44 = .ok (.iastore, 1) := by decide +kernel
theorem dX6_row_45 : decode cX6_row 45 = .ok (.aload_n 0, 1) := by decide +kernel
theorem dX6_row_46 : decode cX6_row 46 = .ok (.getfield 13, 3) := by decide +kernel
theorem dX6_row_49 : decode cX6_row 49 = .ok (.iload_n 1, 1) := by decide +kernel
theorem dX6_row_50 : decode cX6_row 50 = .ok (.iload_n 3, 1) := by decide +kernel
theorem dX6_row_51 : decode cX6_row 51 = .ok (.iastore, 1) := by decide +kernel
theorem dX6_row_52 : decode cX6_row 52 = .ok (.iconst 0, 1) := by decide +kernel
theorem dX6_row_53 : decode cX6_row 53 = .ok (.istore 4, 2) := by decide +kernel
theorem dX6_row_55 : decode cX6_row 55 = .ok (.iload 4, 2) := by decide +kernel
theorem dX6_row_57 : decode cX6_row 57 = .ok (.bipush 40, 2) := by decide +kernel
theorem dX6_row_59 : decode cX6_row 59 = .ok (.if_icmp .ge 22, 3) := by decide +kernel
theorem dX6_row_62 : decode cX6_row 62 = .ok (.aload_n 0, 1) := by decide +kernel
theorem dX6_row_63 : decode cX6_row 63 = .ok (.getfield 16, 3) := by decide +kernel
theorem dX6_row_66 : decode cX6_row 66 = .ok (.bipush 40, 2) := by decide +kernel
theorem dX6_row_68 : decode cX6_row 68 = .ok (.iload_n 1, 1) := by decide +kernel
theorem dX6_row_69 : decode cX6_row 69 = .ok (.imul, 1) := by decide +kernel
theorem dX6_row_70 : decode cX6_row 70 = .ok (.iload 4, 2) := by decide +kernel
theorem dX6_row_72 : decode cX6_row 72 = .ok (.iadd, 1) := by decide +kernel
theorem dX6_row_73 : decode cX6_row 73 = .ok (.iconst 0, 1) := by decide +kernel
theorem dX6_row_74 : decode cX6_row 74 = .ok (.iastore, 1) := by decide +kernel
theorem dX6_row_75 : decode cX6_row 75 = .ok (.iinc 4 1, 3) := by decide +kernel
theorem dX6_row_78 : decode cX6_row 78 = .ok (.goto (-23), 3) := by decide +kernel
theorem dX6_row_81 : decode cX6_row 81 = .ok (.aload_n 0, 1) := by decide +kernel
theorem dX6_row_82 : decode cX6_row 82 = .ok (.iload_n 3, 1) := by decide +kernel
theorem dX6_row_83 : decode cX6_row 83 = .ok (.invokevirtual 66, 3) := by decide +kernel
theorem dX6_row_86 : decode cX6_row 86 = .ok (.ireturn, 1) := by decide +kernel
theorem dX6_asLane_0 : decode cX6_asLane 0 = .ok (.iload_n 0, 1) := by decide +kernel
theorem dX6_asLane_1 : decode cX6_asLane 1 = .ok (.ifCond .ne 13, 3) := by decide +kernel
theorem dX6_asLane_4 : decode cX6_asLane 4 = .ok (.iload_n 1, 1) := by decide +kernel
theorem dX6_asLane_5 : decode cX6_asLane 5 = .ok (.bipush 24, 2) := by decide +kernel
theorem dX6_asLane_7 : decode cX6_asLane 7 = .ok (.ishl, 1) := by decide +kernel
theorem dX6_asLane_8 : decode cX6_asLane 8 = .ok (.bipush 24, 2) := by decide +kernel
theorem dX6_asLane_10 : decode cX6_asLane 10 = .ok (.ishr, 1) := by decide +kernel
theorem dX6_asLane_11 : decode cX6_asLane 11 = .ok (.goto 19, 3) := by decide +kernel
theorem dX6_asLane_14 : decode cX6_asLane 14 = .ok (.iload_n 0, 1) := by decide +kernel
theorem dX6_asLane_15 : decode cX6_asLane 15 = .ok (.iconst 1, 1) := by decide +kernel
theorem dX6_asLane_16 : decode cX6_asLane 16 = .ok (.if_icmp .ne 13, 3) := by decide +kernel
theorem dX6_asLane_19 : decode cX6_asLane 19 = .ok (.iload_n 1, 1) := by decide +kernel
theorem dX6_asLane_20 : decode cX6_asLane 20 = .ok (.bipush 16, 2) := by decide +kernel
theorem dX6_asLane_22 : decode cX6_asLane 22 = .ok (.ishl, 1) := by decide +kernel
theorem dX6_asLane_23 : decode cX6_asLane 23 = .ok (.bipush 16, 2) := by decide +kernel
theorem dX6_asLane_25 : decode cX6_asLane 25 = .ok (.ishr, 1) := by decide +kernel
theorem dX6_asLane_26 : decode cX6_asLane 26 = .ok (.goto 4, 3) := by decide +kernel
theorem dX6_asLane_29 : decode cX6_asLane 29 = .ok (.iload_n 1, 1) := by decide +kernel
theorem dX6_asLane_30 : decode cX6_asLane 30 = .ok (.ireturn, 1) := by decide +kernel
set_option maxRecDepth 20000 in
theorem ggX6_set_X6_isRow : GoodIn wsX6_set wsX6_isRow := goodIn_r _ [8, 9, 10, 11, 7, 12] (by decide +kernel) (by decide +kernel)
set_option maxRecDepth 20000 in
theorem gX6_set_X6_isRow : GoodIn wsX6_set (va_wsS RX6 55 yX6_isRow wsX6_isRow) := goodIn_app (goodIn_of _ (by decide +kernel)) ggX6_set_X6_isRow
set_option maxRecDepth 20000 in
theorem ggX6_set_X6_find : GoodIn wsX6_set wsX6_find := goodIn_r _ [16, 17, 18, 26, 27, 28, 29, 30, 31, 32, 33, 34, 35, 36, 37, 38, 39, 40, 41, 42, 43, 44, 45, 46, 47] (by decide +kernel) (by decide +kernel)
set_option maxRecDepth 20000 in
theorem gX6_set_X6_find : GoodIn wsX6_set (wsV RX6 62 RX6 yX6_find wsX6_find) := goodIn_app (goodIn_of _ (by decide +kernel)) ggX6_set_X6_find
set_option maxRecDepth 20000 in
theorem ggX6_set_X6_in : GoodIn wsX6_set wsX6_in := goodIn_r _ [12] (by decide +kernel) (by decide +kernel)
set_option maxRecDepth 20000 in
theorem gX6_set_X6_in : GoodIn wsX6_set (va_wsS RX6 51 yX6_in wsX6_in) := goodIn_app (goodIn_of _ (by decide +kernel)) ggX6_set_X6_in
set_option maxRecDepth 20000 in
theorem ggX6_set_X6_asLane : GoodIn wsX6_set wsX6_asLane := goodIn_r _ [21] (by decide +kernel) (by decide +kernel)
set_option maxRecDepth 20000 in
theorem gX6_set_X6_asLane : GoodIn wsX6_set (va_wsS RX6 69 yX6_asLane wsX6_asLane) := goodIn_app (goodIn_of _ (by decide +kernel)) ggX6_set_X6_asLane
set_option maxRecDepth 20000 in
theorem ggX6_set_X6_well : GoodIn wsX6_set wsX6_well := goodIn_r _ [25, 17, 26, 27, 28, 29, 30, 31, 32, 33, 34, 35, 36, 37, 38, 39, 40, 41, 42, 43, 44, 45, 46, 47] (by decide +kernel) (by decide +kernel)
set_option maxRecDepth 20000 in
theorem gX6_set_X6_well : GoodIn wsX6_set (wsV RX6 66 RX6 yX6_well wsX6_well) := goodIn_app (goodIn_of _ (by decide +kernel)) ggX6_set_X6_well
theorem dX6_set_0 : decode cX6_set 0 = .ok (.iload_n 1, 1) := by decide +kernel
theorem dX6_set_1 : decode cX6_set 1 = .ok (.invokestatic 55, 3) := by decide +kernel
theorem dX6_set_4 : decode cX6_set 4 = .ok (.ifCond .ne 6, 3) := by decide +kernel
theorem dX6_set_7 : decode cX6_set 7 = .ok (.ldc 61, 2) := by decide +kernel
theorem dX6_set_9 : decode cX6_set 9 = .ok (.ireturn, 1) := by decide +kernel
theorem dX6_set_10 : decode cX6_set 10 = .ok (.aload_n 0, 1) := by decide +kernel
theorem dX6_set_11 : decode cX6_set 11 = .ok (.getfield 13, 3) := by decide +kernel
theorem dX6_set_14 : decode cX6_set 14 = .ok (.iload_n 1, 1) := by decide +kernel
theorem dX6_set_15 : decode cX6_set 15 = .ok (.iaload, 1) := by decide +kernel
theorem dX6_set_16 : decode cX6_set 16 = .ok (.ifCond .ge 9, 3) := by decide +kernel
theorem dX6_set_19 : decode cX6_set 19 = .ok (.aload_n 0, 1) := by decide +kernel
theorem dX6_set_20 : decode cX6_set 20 = .ok (.iconst 1, 1) := by decide +kernel
theorem dX6_set_21 : decode cX6_set 21 = .ok (.invokevirtual 62, 3) := by decide +kernel
theorem dX6_set_24 : decode cX6_set 24 = .ok (.ireturn, 1) := by decide +kernel
theorem dX6_set_25 : decode cX6_set 25 = .ok (.iload_n 2, 1) := by decide +kernel
theorem dX6_set_26 : decode cX6_set 26 = .ok (.i2l, 1) := by decide +kernel
theorem dX6_set_27 : decode cX6_set 27 = .ok (.lconst 0, 1) := by decide +kernel
theorem dX6_set_28 : decode cX6_set 28 = .ok (.aload_n 0, 1) := by decide +kernel
theorem dX6_set_29 : decode cX6_set 29 = .ok (.getfield 13, 3) := by decide +kernel
theorem dX6_set_32 : decode cX6_set 32 = .ok (.iload_n 1, 1) := by decide +kernel
theorem dX6_set_33 : decode cX6_set 33 = .ok (.iaload, 1) := by decide +kernel
theorem dX6_set_34 : decode cX6_set 34 = .ok (.iconst 1, 1) := by decide +kernel
theorem dX6_set_35 : decode cX6_set 35 = .ok (.isub, 1) := by decide +kernel
theorem dX6_set_36 : decode cX6_set 36 = .ok (.i2l, 1) := by decide +kernel
theorem dX6_set_37 : decode cX6_set 37 = .ok (.invokestatic 51, 3) := by decide +kernel
theorem dX6_set_40 : decode cX6_set 40 = .ok (.ifCond .ne 9, 3) := by decide +kernel
theorem dX6_set_43 : decode cX6_set 43 = .ok (.aload_n 0, 1) := by decide +kernel
theorem dX6_set_44 : decode cX6_set 44 = .ok (.iconst 2, 1) := by decide +kernel
theorem dX6_set_45 : decode cX6_set 45 = .ok (.invokevirtual 62, 3) := by decide +kernel
theorem dX6_set_48 : decode cX6_set 48 = .ok (.ireturn, 1) := by decide +kernel
theorem dX6_set_49 : decode cX6_set 49 = .ok (.aload_n 0, 1) := by decide +kernel
theorem dX6_set_50 : decode cX6_set 50 = .ok (.getfield 16, 3) := by decide +kernel
theorem dX6_set_53 : decode cX6_set 53 = .ok (.bipush 40, 2) := by decide +kernel
theorem dX6_set_55 : decode cX6_set 55 = .ok (.iload_n 1, 1) := by decide +kernel
theorem dX6_set_56 : decode cX6_set 56 = .ok (.imul, 1) := by decide +kernel
theorem dX6_set_57 : decode cX6_set 57 = .ok (.iload_n 2, 1) := by decide +kernel
theorem dX6_set_58 : decode cX6_set 58 = .ok (.iadd, 1) := by decide +kernel
theorem dX6_set_59 : decode cX6_set 59 = .ok (.aload_n 0, 1) := by decide +kernel
theorem dX6_set_60 : decode cX6_set 60 = .ok (.getfield 7, 3) := by decide +kernel
theorem dX6_set_63 : decode cX6_set 63 = .ok (.iload_n 1, 1) := by decide +kernel
theorem dX6_set_64 : decode cX6_set 64 = .ok (.iaload, 1) := by decide +kernel
theorem dX6_set_65 : decode cX6_set 65 = .ok (.iload_n 3, 1) := by decide +kernel
theorem dX6_set_66 : decode cX6_set 66 = .ok (.invokestatic 69, 3) := by decide +kernel
theorem dX6_set_69 : decode cX6_set 69 = .ok (.iastore, 1) := by decide +kernel
theorem dX6_set_70 : decode cX6_set 70 = .ok (.aload_n 0, 1) := by decide +kernel
theorem dX6_set_71 : decode cX6_set 71 = .ok (.aload_n 0, 1) := by decide +kernel
theorem dX6_set_72 : decode cX6_set 72 = .ok (.getfield 16, 3) := by decide +kernel
theorem dX6_set_75 : decode cX6_set 75 = .ok (.bipush 40, 2) := by decide +kernel
theorem dX6_set_77 : decode cX6_set 77 = .ok (.iload_n 1, 1) := by decide +kernel
theorem dX6_set_78 : decode cX6_set 78 = .ok (.imul, 1) := by decide +kernel
theorem dX6_set_79 : decode cX6_set 79 = .ok (.iload_n 2, 1) := by decide +kernel
theorem dX6_set_80 : decode cX6_set 80 = .ok (.iadd, 1) := by decide +kernel
theorem dX6_set_81 : decode cX6_set 81 = .ok (.iaload, 1) := by decide +kernel
theorem dX6_set_82 : decode cX6_set 82 = .ok (.invokevirtual 66, 3) := by decide +kernel
theorem dX6_set_85 : decode cX6_set 85 = .ok (.ireturn, 1) := by decide +kernel
set_option maxRecDepth 20000 in
theorem ggX6_copy_X6_isRow : GoodIn wsX6_copy wsX6_isRow := goodIn_r _ [9, 10, 11, 12, 8, 13] (by decide +kernel) (by decide +kernel)
set_option maxRecDepth 20000 in
theorem gX6_copy_X6_isRow : GoodIn wsX6_copy (va_wsS RX6 55 yX6_isRow wsX6_isRow) := goodIn_app (goodIn_of _ (by decide +kernel)) ggX6_copy_X6_isRow
set_option maxRecDepth 20000 in
theorem ggX6_copy_X6_find : GoodIn wsX6_copy wsX6_find := goodIn_r _ [17, 18, 19, 24, 25, 26, 27, 28, 29, 30, 31, 32, 33, 34, 35, 36, 37, 38, 39, 40, 41, 42, 43, 44, 45] (by decide +kernel) (by decide +kernel)
set_option maxRecDepth 20000 in
theorem gX6_copy_X6_find : GoodIn wsX6_copy (wsV RX6 62 RX6 yX6_find wsX6_find) := goodIn_app (goodIn_of _ (by decide +kernel)) ggX6_copy_X6_find
set_option maxRecDepth 20000 in
theorem ggX6_copy_X6_in : GoodIn wsX6_copy wsX6_in := goodIn_r _ [13] (by decide +kernel) (by decide +kernel)
set_option maxRecDepth 20000 in
theorem gX6_copy_X6_in : GoodIn wsX6_copy (va_wsS RX6 51 yX6_in wsX6_in) := goodIn_app (goodIn_of _ (by decide +kernel)) ggX6_copy_X6_in
set_option maxRecDepth 20000 in
theorem ggX6_copy_X6_well : GoodIn wsX6_copy wsX6_well := goodIn_r _ [23, 18, 24, 25, 26, 27, 28, 29, 30, 31, 32, 33, 34, 35, 36, 37, 38, 39, 40, 41, 42, 43, 44, 45] (by decide +kernel) (by decide +kernel)
set_option maxRecDepth 20000 in
theorem gX6_copy_X6_well : GoodIn wsX6_copy (wsV RX6 66 RX6 yX6_well wsX6_well) := goodIn_app (goodIn_of _ (by decide +kernel)) ggX6_copy_X6_well
theorem dX6_copy_0 : decode cX6_copy 0 = .ok (.iload_n 1, 1) := by decide +kernel
theorem dX6_copy_1 : decode cX6_copy 1 = .ok (.invokestatic 55, 3) := by decide +kernel
theorem dX6_copy_4 : decode cX6_copy 4 = .ok (.ifCond .eq 10, 3) := by decide +kernel
theorem dX6_copy_7 : decode cX6_copy 7 = .ok (.iload_n 3, 1) := by decide +kernel
theorem dX6_copy_8 : decode cX6_copy 8 = .ok (.invokestatic 55, 3) := by decide +kernel
theorem dX6_copy_11 : decode cX6_copy 11 = .ok (.ifCond .ne 6, 3) := by decide +kernel
theorem dX6_copy_14 : decode cX6_copy 14 = .ok (.ldc 61, 2) := by decide +kernel
theorem dX6_copy_16 : decode cX6_copy 16 = .ok (.ireturn, 1) := by decide +kernel
theorem dX6_copy_17 : decode cX6_copy 17 = .ok (.aload_n 0, 1) := by decide +kernel
theorem dX6_copy_18 : decode cX6_copy 18 = .ok (.getfield 13, 3) := by decide +kernel
theorem dX6_copy_21 : decode cX6_copy 21 = .ok (.iload_n 1, 1) := by decide +kernel
theorem dX6_copy_22 : decode cX6_copy 22 = .ok (.iaload, 1) := by decide +kernel
theorem dX6_copy_23 : decode cX6_copy 23 = .ok (.ifCond .lt 12, 3) := by decide +kernel
theorem dX6_copy_26 : decode cX6_copy 26 = .ok (.aload_n 0, 1) := by decide +kernel
theorem dX6_copy_27 : decode cX6_copy 27 = .ok (.getfield 13, 3) := by decide +kernel
theorem dX6_copy_30 : decode cX6_copy 30 = .ok (.iload_n 3, 1) := by decide +kernel
theorem dX6_copy_31 : decode cX6_copy 31 = .ok (.iaload, 1) := by decide +kernel
theorem dX6_copy_32 : decode cX6_copy 32 = .ok (.ifCond .ge 9, 3) := by decide +kernel
theorem dX6_copy_35 : decode cX6_copy 35 = .ok (.aload_n 0, 1) := by decide +kernel
theorem dX6_copy_36 : decode cX6_copy 36 = .ok (.iconst 1, 1) := by decide +kernel
theorem dX6_copy_37 : decode cX6_copy 37 = .ok (.invokevirtual 62, 3) := by decide +kernel
theorem dX6_copy_40 : decode cX6_copy 40 = .ok (.ireturn, 1) := by decide +kernel
theorem dX6_copy_41 : decode cX6_copy 41 = .ok (.aload_n 0, 1) := by decide +kernel
theorem dX6_copy_42 : decode cX6_copy 42 = .ok (.getfield 7, 3) := by decide +kernel
theorem dX6_copy_45 : decode cX6_copy 45 = .ok (.iload_n 1, 1) := by decide +kernel
theorem dX6_copy_46 : decode cX6_copy 46 = .ok (.iaload, 1) := by decide +kernel
theorem dX6_copy_47 : decode cX6_copy 47 = .ok (.aload_n 0, 1) := by decide +kernel
theorem dX6_copy_48 : decode cX6_copy 48 = .ok (.getfield 7, 3) := by decide +kernel
theorem dX6_copy_51 : decode cX6_copy 51 = .ok (.iload_n 3, 1) := by decide +kernel
theorem dX6_copy_52 : decode cX6_copy 52 = .ok (.iaload, 1) := by decide +kernel
theorem dX6_copy_53 : decode cX6_copy 53 = .ok (.if_icmp .eq 9, 3) := by decide +kernel
theorem dX6_copy_56 : decode cX6_copy 56 = .ok (.aload_n 0, 1) := by decide +kernel
theorem dX6_copy_57 : decode cX6_copy 57 = .ok (.iconst 5, 1) := by decide +kernel
theorem dX6_copy_58 : decode cX6_copy 58 = .ok (.invokevirtual 62, 3) := by decide +kernel
theorem dX6_copy_61 : decode cX6_copy 61 = .ok (.ireturn, 1) := by decide +kernel
theorem dX6_copy_62 : decode cX6_copy 62 = .ok (.iload 5, 2) := by decide +kernel
theorem dX6_copy_64 : decode cX6_copy 64 = .ok (.ifCond .lt 44, 3) := by decide +kernel
theorem dX6_copy_67 : decode cX6_copy 67 = .ok (.iload_n 2, 1) := by decide +kernel
theorem dX6_copy_68 : decode cX6_copy 68 = .ok (.i2l, 1) := by decide +kernel
theorem dX6_copy_69 : decode cX6_copy 69 = .ok (.lconst 0, 1) := by decide +kernel
theorem dX6_copy_70 : decode cX6_copy 70 = .ok (.aload_n 0, 1) := by decide +kernel
theorem dX6_copy_71 : decode cX6_copy 71 = .ok (.getfield 13, 3) := by decide +kernel
theorem dX6_copy_74 : decode cX6_copy 74 = .ok (.iload_n 1, 1) := by decide +kernel
theorem dX6_copy_75 : decode cX6_copy 75 = .ok (.iaload, 1) := by decide +kernel
theorem dX6_copy_76 : decode cX6_copy 76 = .ok (.i2l, 1) := by decide +kernel
theorem dX6_copy_77 : decode cX6_copy 77 = .ok (.iload 5, 2) := by decide +kernel
theorem dX6_copy_79 : decode cX6_copy 79 = .ok (.i2l, 1) := by decide +kernel
theorem dX6_copy_80 : decode cX6_copy 80 = .ok (.lsub, 1) := by decide +kernel
theorem dX6_copy_81 : decode cX6_copy 81 = .ok (.invokestatic 51, 3) := by decide +kernel
theorem dX6_copy_84 : decode cX6_copy 84 = .ok (.ifCond .eq 24, 3) := by decide +kernel
theorem dX6_copy_87 : decode cX6_copy 87 = .ok (.iload 4, 2) := by decide +kernel
theorem dX6_copy_89 : decode cX6_copy 89 = .ok (.i2l, 1) := by decide +kernel
theorem dX6_copy_90 : decode cX6_copy 90 = .ok (.lconst 0, 1) := by decide +kernel
theorem dX6_copy_91 : decode cX6_copy 91 = .ok (.aload_n 0, 1) := by decide +kernel
theorem dX6_copy_92 : decode cX6_copy 92 = .ok (.getfield 13, 3) := by decide +kernel
theorem dX6_copy_95 : decode cX6_copy 95 = .ok (.iload_n 3, 1) := by decide +kernel
theorem dX6_copy_96 : decode cX6_copy 96 = .ok (.iaload, 1) := by decide +kernel
theorem dX6_copy_97 : decode cX6_copy 97 = .ok (.i2l, 1) := by decide +kernel
theorem dX6_copy_98 : decode cX6_copy 98 = .ok (.iload 5, 2) := by decide +kernel
theorem dX6_copy_100 : decode cX6_copy 100 = .ok (.i2l, 1) := by decide +kernel
theorem dX6_copy_101 : decode cX6_copy 101 = .ok (.lsub, 1) := by decide +kernel
theorem dX6_copy_102 : decode cX6_copy 102 = .ok (.invokestatic 51, 3) := by decide +kernel
theorem dX6_copy_105 : decode cX6_copy 105 = .ok (.ifCond .ne 9, 3) := by decide +kernel
theorem dX6_copy_108 : decode cX6_copy 108 = .ok (.aload_n 0, 1) := by decide +kernel
theorem dX6_copy_109 : decode cX6_copy 109 = .ok (.iconst 2, 1) := by decide +kernel
theorem dX6_copy_110 : decode cX6_copy 110 = .ok (.invokevirtual 62, 3) := by decide +kernel
theorem dX6_copy_113 : decode cX6_copy 113 = .ok (.ireturn, 1) := by decide +kernel
theorem dX6_copy_114 : decode cX6_copy 114 = .ok (.iconst 0, 1) := by decide +kernel
theorem dX6_copy_115 : decode cX6_copy 115 = .ok (.istore 6, 2) := by decide +kernel
theorem dX6_copy_117 : decode cX6_copy 117 = .ok (.iload 6, 2) := by decide +kernel
theorem dX6_copy_119 : decode cX6_copy 119 = .ok (.iload 5, 2) := by decide +kernel
theorem dX6_copy_121 : decode cX6_copy 121 = .ok (.if_icmp .ge 30, 3) := by decide +kernel
theorem dX6_copy_124 : decode cX6_copy 124 = .ok (.aload_n 0, 1) := by decide +kernel
theorem dX6_copy_125 : decode cX6_copy 125 = .ok (.getfield 22, 3) := by decide +kernel
theorem dX6_copy_128 : decode cX6_copy 128 = .ok (.iload 6, 2) := by decide +kernel
theorem dX6_copy_130 : decode cX6_copy 130 = .ok (.aload_n 0, 1) := by decide +kernel
theorem dX6_copy_131 : decode cX6_copy 131 = .ok (.getfield 16, 3) := by decide +kernel
theorem dX6_copy_134 : decode cX6_copy 134 = .ok (.bipush 40, 2) := by decide +kernel
theorem dX6_copy_136 : decode cX6_copy 136 = .ok (.iload_n 1, 1) := by decide +kernel
theorem dX6_copy_137 : decode cX6_copy 137 = .ok (.imul, 1) := by decide +kernel
theorem dX6_copy_138 : decode cX6_copy 138 = .ok (.iload_n 2, 1) := by decide +kernel
theorem dX6_copy_139 : decode cX6_copy 139 = .ok (.iadd, 1) := by decide +kernel
theorem dX6_copy_140 : decode cX6_copy 140 = .ok (.iload 6, 2) := by decide +kernel
theorem dX6_copy_142 : decode cX6_copy 142 = .ok (.iadd, 1) := by decide +kernel
theorem dX6_copy_143 : decode cX6_copy 143 = .ok (.iaload, 1) := by decide +kernel
theorem dX6_copy_144 : decode cX6_copy 144 = .ok (.iastore, 1) := by decide +kernel
theorem dX6_copy_145 : decode cX6_copy 145 = .ok (.iinc 6 1, 3) := by decide +kernel
theorem dX6_copy_148 : decode cX6_copy 148 = .ok (.goto (-31), 3) := by decide +kernel
theorem dX6_copy_151 : decode cX6_copy 151 = .ok (.iconst 0, 1) := by decide +kernel
theorem dX6_copy_152 : decode cX6_copy 152 = .ok (.istore 6, 2) := by decide +kernel
theorem dX6_copy_154 : decode cX6_copy 154 = .ok (.iload 6, 2) := by decide +kernel
theorem dX6_copy_156 : decode cX6_copy 156 = .ok (.iload 5, 2) := by decide +kernel
theorem dX6_copy_158 : decode cX6_copy 158 = .ok (.if_icmp .ge 31, 3) := by decide +kernel
theorem dX6_copy_161 : decode cX6_copy 161 = .ok (.aload_n 0, 1) := by decide +kernel
theorem dX6_copy_162 : decode cX6_copy 162 = .ok (.getfield 16, 3) := by decide +kernel
theorem dX6_copy_165 : decode cX6_copy 165 = .ok (.bipush 40, 2) := by decide +kernel
theorem dX6_copy_167 : decode cX6_copy 167 = .ok (.iload_n 3, 1) := by decide +kernel
theorem dX6_copy_168 : decode cX6_copy 168 = .ok (.imul, 1) := by decide +kernel
theorem dX6_copy_169 : decode cX6_copy 169 = .ok (.iload 4, 2) := by decide +kernel
theorem dX6_copy_171 : decode cX6_copy 171 = .ok (.iadd, 1) := by decide +kernel
theorem dX6_copy_172 : decode cX6_copy 172 = .ok (.iload 6, 2) := by decide +kernel
theorem dX6_copy_174 : decode cX6_copy 174 = .ok (.iadd, 1) := by decide +kernel
theorem dX6_copy_175 : decode cX6_copy 175 = .ok (.aload_n 0, 1) := by decide +kernel
theorem dX6_copy_176 : decode cX6_copy 176 = .ok (.getfield 22, 3) := by decide +kernel
theorem dX6_copy_179 : decode cX6_copy 179 = .ok (.iload 6, 2) := by decide +kernel
theorem dX6_copy_181 : decode cX6_copy 181 = .ok (.iaload, 1) := by decide +kernel
theorem dX6_copy_182 : decode cX6_copy 182 = .ok (.iastore, 1) := by decide +kernel
theorem dX6_copy_183 : decode cX6_copy 183 = .ok (.iinc 6 1, 3) := by decide +kernel
theorem dX6_copy_186 : decode cX6_copy 186 = .ok (.goto (-32), 3) := by decide +kernel
theorem dX6_copy_189 : decode cX6_copy 189 = .ok (.aload_n 0, 1) := by decide +kernel
theorem dX6_copy_190 : decode cX6_copy 190 = .ok (.iload 5, 2) := by decide +kernel
theorem dX6_copy_192 : decode cX6_copy 192 = .ok (.invokevirtual 66, 3) := by decide +kernel
theorem dX6_copy_195 : decode cX6_copy 195 = .ok (.ireturn, 1) := by decide +kernel
set_option maxRecDepth 20000 in
theorem ggX6_drop_X6_isRow : GoodIn wsX6_drop wsX6_isRow := goodIn_r _ [6, 7, 8, 9, 5, 10] (by decide +kernel) (by decide +kernel)
set_option maxRecDepth 20000 in
theorem gX6_drop_X6_isRow : GoodIn wsX6_drop (va_wsS RX6 55 yX6_isRow wsX6_isRow) := goodIn_app (goodIn_of _ (by decide +kernel)) ggX6_drop_X6_isRow
set_option maxRecDepth 20000 in
theorem ggX6_drop_X6_find : GoodIn wsX6_drop wsX6_find := goodIn_r _ [14, 15, 16, 21, 22, 23, 24, 25, 26, 27, 28, 29, 30, 31, 32, 33, 34, 35, 36, 37, 38, 39, 40, 41, 42] (by decide +kernel) (by decide +kernel)
set_option maxRecDepth 20000 in
theorem gX6_drop_X6_find : GoodIn wsX6_drop (wsV RX6 62 RX6 yX6_find wsX6_find) := goodIn_app (goodIn_of _ (by decide +kernel)) ggX6_drop_X6_find
set_option maxRecDepth 20000 in
theorem ggX6_drop_X6_well : GoodIn wsX6_drop wsX6_well := goodIn_r _ [20, 15, 21, 22, 23, 24, 25, 26, 27, 28, 29, 30, 31, 32, 33, 34, 35, 36, 37, 38, 39, 40, 41, 42] (by decide +kernel) (by decide +kernel)
set_option maxRecDepth 20000 in
theorem gX6_drop_X6_well : GoodIn wsX6_drop (wsV RX6 66 RX6 yX6_well wsX6_well) := goodIn_app (goodIn_of _ (by decide +kernel)) ggX6_drop_X6_well
theorem dX6_drop_0 : decode cX6_drop 0 = .ok (.iload_n 1, 1) := by decide +kernel
theorem dX6_drop_1 : decode cX6_drop 1 = .ok (.invokestatic 55, 3) := by decide +kernel
theorem dX6_drop_4 : decode cX6_drop 4 = .ok (.ifCond .ne 6, 3) := by decide +kernel
theorem dX6_drop_7 : decode cX6_drop 7 = .ok (.ldc 61, 2) := by decide +kernel
theorem dX6_drop_9 : decode cX6_drop 9 = .ok (.ireturn, 1) := by decide +kernel
theorem dX6_drop_10 : decode cX6_drop 10 = .ok (.aload_n 0, 1) := by decide +kernel
theorem dX6_drop_11 : decode cX6_drop 11 = .ok (.getfield 13, 3) := by decide +kernel
theorem dX6_drop_14 : decode cX6_drop 14 = .ok (.iload_n 1, 1) := by decide +kernel
theorem dX6_drop_15 : decode cX6_drop 15 = .ok (.iaload, 1) := by decide +kernel
theorem dX6_drop_16 : decode cX6_drop 16 = .ok (.ifCond .ge 9, 3) := by decide +kernel
theorem dX6_drop_19 : decode cX6_drop 19 = .ok (.aload_n 0, 1) := by decide +kernel
theorem dX6_drop_20 : decode cX6_drop 20 = .ok (.iconst 1, 1) := by decide +kernel
theorem dX6_drop_21 : decode cX6_drop 21 = .ok (.invokevirtual 62, 3) := by decide +kernel
theorem dX6_drop_24 : decode cX6_drop 24 = .ok (.ireturn, 1) := by decide +kernel
theorem dX6_drop_25 : decode cX6_drop 25 = .ok (.aload_n 0, 1) := by decide +kernel
theorem dX6_drop_26 : decode cX6_drop 26 = .ok (.getfield 13, 3) := by decide +kernel
theorem dX6_drop_29 : decode cX6_drop 29 = .ok (.iload_n 1, 1) := by decide +kernel
theorem dX6_drop_30 : decode cX6_drop 30 = .ok (.iaload, 1) := by decide +kernel
theorem dX6_drop_31 : decode cX6_drop 31 = .ok (.istore_n 2, 1) := by decide +kernel
theorem dX6_drop_32 : decode cX6_drop 32 = .ok (.aload_n 0, 1) := by decide +kernel
theorem dX6_drop_33 : decode cX6_drop 33 = .ok (.getfield 13, 3) := by decide +kernel
theorem dX6_drop_36 : decode cX6_drop 36 = .ok (.iload_n 1, 1) := by decide +kernel
theorem dX6_drop_37 : decode cX6_drop 37 = .ok (.iconst (-1), 1) := by decide +kernel
theorem dX6_drop_38 : decode cX6_drop 38 = .ok (.iastore, 1) := by decide +kernel
theorem dX6_drop_39 : decode cX6_drop 39 = .ok (.aload_n 0, 1) := by decide +kernel
theorem dX6_drop_40 : decode cX6_drop 40 = .ok (.iload_n 2, 1) := by decide +kernel
theorem dX6_drop_41 : decode cX6_drop 41 = .ok (.invokevirtual 66, 3) := by decide +kernel
theorem dX6_drop_44 : decode cX6_drop 44 = .ok (.ireturn, 1) := by decide +kernel
set_option maxRecDepth 20000 in
theorem ggX6_feed_X6_in : GoodIn wsX6_feed wsX6_in := goodIn_r _ [9] (by decide +kernel) (by decide +kernel)
set_option maxRecDepth 20000 in
theorem gX6_feed_X6_in : GoodIn wsX6_feed (va_wsS RX6 51 yX6_in wsX6_in) := goodIn_app (goodIn_of _ (by decide +kernel)) ggX6_feed_X6_in
theorem dX6_feed_0 : decode cX6_feed 0 = .ok (.iload_n 1, 1) := by decide +kernel
theorem dX6_feed_1 : decode cX6_feed 1 = .ok (.i2l, 1) := by decide +kernel
theorem dX6_feed_2 : decode cX6_feed 2 = .ok (.lconst 0, 1) := by decide +kernel
theorem dX6_feed_3 : decode cX6_feed 3 = .ok (.ldc2_w 73, 3) := by decide +kernel
theorem dX6_feed_6 : decode cX6_feed 6 = .ok (.invokestatic 51, 3) := by decide +kernel
theorem dX6_feed_9 : decode cX6_feed 9 = .ok (.ifCond .ne 6, 3) := by decide +kernel
theorem dX6_feed_12 : decode cX6_feed 12 = .ok (.ldc 61, 2) := by decide +kernel
theorem dX6_feed_14 : decode cX6_feed 14 = .ok (.ireturn, 1) := by decide +kernel
theorem dX6_feed_15 : decode cX6_feed 15 = .ok (.aload_n 0, 1) := by decide +kernel
theorem dX6_feed_16 : decode cX6_feed 16 = .ok (.getfield 75, 3) := by decide +kernel
theorem dX6_feed_19 : decode cX6_feed 19 = .ok (.bipush 120, 2) := by decide +kernel
theorem dX6_feed_21 : decode cX6_feed 21 = .ok (.if_icmp .ne 6, 3) := by decide +kernel
theorem dX6_feed_24 : decode cX6_feed 24 = .ok (.ldc 78, 2) := by decide +kernel
theorem dX6_feed_26 : decode cX6_feed 26 = .ok (.ireturn, 1) := by decide +kernel
theorem dX6_feed_27 : decode cX6_feed 27 = .ok (.aload_n 0, 1) := by decide +kernel
theorem dX6_feed_28 : decode cX6_feed 28 = .ok (.getfield 25, 3) := by decide +kernel
theorem dX6_feed_31 : decode cX6_feed 31 = .ok (.aload_n 0, 1) := by decide +kernel
theorem dX6_feed_32 : decode cX6_feed 32 = .ok (.getfield 75, 3) := by decide +kernel
theorem dX6_feed_35 : decode cX6_feed 35 = .ok (.iload_n 1, 1) := by decide +kernel
theorem dX6_feed_36 : decode cX6_feed 36 = .ok (.iastore, 1) := by decide +kernel
theorem dX6_feed_37 : decode cX6_feed 37 = .ok (.aload_n 0, 1) := by decide +kernel
theorem dX6_feed_38 : decode cX6_feed 38 = .ok (.dup, 1) := by decide +kernel
theorem dX6_feed_39 : decode cX6_feed 39 = .ok (.getfield 75, 3) := by decide +kernel
theorem dX6_feed_42 : decode cX6_feed 42 = .ok (.iconst 1, 1) := by decide +kernel
theorem dX6_feed_43 : decode cX6_feed 43 = .ok (.iadd, 1) := by decide +kernel
theorem dX6_feed_44 : decode cX6_feed 44 = .ok (.putfield 75, 3) := by decide +kernel
theorem dX6_feed_47 : decode cX6_feed 47 = .ok (.aload_n 0, 1) := by decide +kernel
theorem dX6_feed_48 : decode cX6_feed 48 = .ok (.getfield 75, 3) := by decide +kernel
theorem dX6_feed_51 : decode cX6_feed 51 = .ok (.ireturn, 1) := by decide +kernel
set_option maxRecDepth 20000 in
theorem ggX6_nextToken_X6_in : GoodIn wsX6_nextToken wsX6_in := goodIn_r _ [14] (by decide +kernel) (by decide +kernel)
set_option maxRecDepth 20000 in
theorem gX6_nextToken_X6_in : GoodIn wsX6_nextToken (va_wsS RX6 51 yX6_in wsX6_in) := goodIn_app (goodIn_of _ (by decide +kernel)) ggX6_nextToken_X6_in
theorem dX6_nextToken_0 : decode cX6_nextToken 0 = .ok (.aload_n 0, 1) := by decide +kernel
theorem dX6_nextToken_1 : decode cX6_nextToken 1 = .ok (.aload_n 0, 1) := by decide +kernel
theorem dX6_nextToken_2 : decode cX6_nextToken 2 = .ok (.getfield 79, 3) := by decide +kernel
theorem dX6_nextToken_5 : decode cX6_nextToken 5 = .ok (.putfield 82, 3) := by decide +kernel
theorem dX6_nextToken_8 : decode cX6_nextToken 8 = .ok (.aload_n 0, 1) := by decide +kernel
theorem dX6_nextToken_9 : decode cX6_nextToken 9 = .ok (.aload_n 0, 1) := by decide +kernel
theorem dX6_nextToken_10 : decode cX6_nextToken 10 = .ok (.getfield 79, 3) := by decide +kernel
theorem dX6_nextToken_13 : decode cX6_nextToken 13 = .ok (.aload_n 0, 1) := by decide +kernel
theorem dX6_nextToken_14 : decode cX6_nextToken 14 = .ok (.getfield 75, 3) := by decide +kernel
theorem dX6_nextToken_17 : decode cX6_nextToken 17 = .ok (.if_icmp .ne 7, 3) := by decide +kernel
theorem dX6_nextToken_20 : decode cX6_nextToken 20 = .ok (.iconst 3, 1) := by decide +kernel
theorem dX6_nextToken_21 : decode cX6_nextToken 21 = .ok (.goto 4, 3) := by decide +kernel
theorem dX6_nextToken_24 : decode cX6_nextToken 24 = .ok (.iconst 0, 1) := by decide +kernel
theorem dX6_nextToken_25 : decode cX6_nextToken 25 = .ok (.putfield 85, 3) := by decide +kernel
theorem dX6_nextToken_28 : decode cX6_nextToken 28 = .ok (.aload_n 0, 1) := by decide +kernel
theorem dX6_nextToken_29 : decode cX6_nextToken 29 = .ok (.iconst 0, 1) := by decide +kernel
theorem dX6_nextToken_30 : decode cX6_nextToken 30 = .ok (.putfield 88, 3) := by decide +kernel
theorem dX6_nextToken_33 : decode cX6_nextToken 33 = .ok (.aload_n 0, 1) := by decide +kernel
theorem dX6_nextToken_34 : decode cX6_nextToken 34 = .ok (.getfield 79, 3) := by decide +kernel
theorem dX6_nextToken_37 : decode cX6_nextToken 37 = .ok (.aload_n 0, 1) := by decide +kernel
theorem dX6_nextToken_38 : decode cX6_nextToken 38 = .ok (.getfield 75, 3) := by decide +kernel
theorem dX6_nextToken_41 : decode cX6_nextToken 41 = .ok (.if_icmp .ge 78, 3) := by decide +kernel
theorem dX6_nextToken_44 : decode cX6_nextToken 44 = .ok (.aload_n 0, 1) := by decide +kernel
theorem dX6_nextToken_45 : decode cX6_nextToken 45 = .ok (.getfield 25, 3) := by decide +kernel
theorem dX6_nextToken_48 : decode cX6_nextToken 48 = .ok (.aload_n 0, 1) := by decide +kernel
theorem dX6_nextToken_49 : decode cX6_nextToken 49 = .ok (.getfield 79, 3) := by decide +kernel
theorem dX6_nextToken_52 : decode cX6_nextToken 52 = .ok (.iaload, 1) := by decide +kernel
theorem dX6_nextToken_53 : decode cX6_nextToken 53 = .ok (.i2l, 1) := by decide +kernel
theorem dX6_nextToken_54 : decode cX6_nextToken 54 = .ok (.ldc2_w 91, 3) := by decide +kernel
theorem dX6_nextToken_57 : decode cX6_nextToken 57 = .ok (.ldc2_w 93, 3) := by decide +kernel
theorem dX6_nextToken_60 : decode cX6_nextToken 60 = .ok (.invokestatic 51, 3) := by decide +kernel
theorem dX6_nextToken_63 : decode cX6_nextToken 63 = .ok (.ifCond .eq 56, 3) := by decide +kernel
theorem dX6_nextToken_66 : decode cX6_nextToken 66 = .ok (.aload_n 0, 1) := by decide +kernel
theorem dX6_nextToken_67 : decode cX6_nextToken 67 = .ok (.aload_n 0, 1) := by decide +kernel
theorem dX6_nextToken_68 : decode cX6_nextToken 68 = .ok (.getfield 88, 3) := by decide +kernel
theorem dX6_nextToken_71 : decode cX6_nextToken 71 = .ok (.bipush 99, 2) := by decide +kernel
theorem dX6_nextToken_73 : decode cX6_nextToken 73 = .ok (.if_icmp .le 10, 3) := by decide +kernel
theorem dX6_nextToken_76 : decode cX6_nextToken 76 = .ok (.aload_n 0, 1) := by decide +kernel
theorem dX6_nextToken_77 : decode cX6_nextToken 77 = .ok (.getfield 88, 3) := by decide +kernel
theorem dX6_nextToken_80 : decode cX6_nextToken 80 = .ok (.goto 23, 3) := by decide +kernel
theorem dX6_nextToken_83 : decode cX6_nextToken 83 = .ok (.bipush 10, 2) := by decide +kernel
theorem dX6_nextToken_85 : decode cX6_nextToken 85 = .ok (.aload_n 0, 1) := by decide +kernel
theorem dX6_nextToken_86 : decode cX6_nextToken 86 = .ok (.getfield 88, 3) := by decide +kernel
theorem dX6_nextToken_89 : decode cX6_nextToken 89 = .ok (.imul, 1) := by decide +kernel
theorem dX6_nextToken_90 : decode cX6_nextToken 90 = .ok (.aload_n 0, 1) := by decide +kernel
theorem dX6_nextToken_91 : decode cX6_nextToken 91 = .ok (.getfield 25, 3) := by decide +kernel
theorem dX6_nextToken_94 : decode cX6_nextToken 94 = .ok (.aload_n 0, 1) := by decide +kernel
theorem dX6_nextToken_95 : decode cX6_nextToken 95 = .ok (.getfield 79, 3) := by decide +kernel
theorem dX6_nextToken_98 : decode cX6_nextToken 98 = .ok (.iaload, 1) := by decide +kernel
theorem dX6_nextToken_99 : decode cX6_nextToken 99 = .ok (.iadd, 1) := by decide +kernel
theorem dX6_nextToken_100 : decode cX6_nextToken 100 = .ok (.bipush 48, 2) := by decide +kernel
theorem dX6_nextToken_102 : decode cX6_nextToken 102 = .ok (.isub, 1) := by decide +kernel
theorem dX6_nextToken_103 : decode cX6_nextToken 103 = .ok (.putfield 88, 3) := by decide +kernel
theorem dX6_nextToken_106 : decode cX6_nextToken 106 = .ok (.aload_n 0, 1) := by decide +kernel
theorem dX6_nextToken_107 : decode cX6_nextToken 107 = .ok (.dup, 1) := by decide +kernel
theorem dX6_nextToken_108 : decode cX6_nextToken 108 = .ok (.getfield 79, 3) := by decide +kernel
theorem dX6_nextToken_111 : decode cX6_nextToken 111 = .ok (.iconst 1, 1) := by decide +kernel
theorem dX6_nextToken_112 : decode cX6_nextToken 112 = .ok (.iadd, 1) := by decide +kernel
theorem dX6_nextToken_113 : decode cX6_nextToken 113 = .ok (.putfield 79, 3) := by decide +kernel
theorem dX6_nextToken_116 : decode cX6_nextToken 116 = .ok (.goto (-83), 3) := by decide +kernel
theorem dX6_nextToken_119 : decode cX6_nextToken 119 = .ok (.aload_n 0, 1) := by decide +kernel
theorem dX6_nextToken_120 : decode cX6_nextToken 120 = .ok (.getfield 79, 3) := by decide +kernel
theorem dX6_nextToken_123 : decode cX6_nextToken 123 = .ok (.aload_n 0, 1) := by decide +kernel
theorem dX6_nextToken_124 : decode cX6_nextToken 124 = .ok (.getfield 82, 3) := by decide +kernel
theorem dX6_nextToken_127 : decode cX6_nextToken 127 = .ok (.if_icmp .le 28, 3) := by decide +kernel
theorem dX6_nextToken_130 : decode cX6_nextToken 130 = .ok (.aload_n 0, 1) := by decide +kernel
theorem dX6_nextToken_131 : decode cX6_nextToken 131 = .ok (.aload_n 0, 1) := by decide +kernel
theorem dX6_nextToken_132 : decode cX6_nextToken 132 = .ok (.getfield 79, 3) := by decide +kernel
theorem dX6_nextToken_135 : decode cX6_nextToken 135 = .ok (.aload_n 0, 1) := by decide +kernel
theorem dX6_nextToken_136 : decode cX6_nextToken 136 = .ok (.getfield 82, 3) := by decide +kernel
theorem dX6_nextToken_139 : decode cX6_nextToken 139 = .ok (.isub, 1) := by decide +kernel
theorem dX6_nextToken_140 : decode cX6_nextToken 140 = .ok (.iconst 2, 1) := by decide +kernel
theorem dX6_nextToken_141 : decode cX6_nextToken 141 = .ok (.if_icmp .le 7, 3) := by decide +kernel
theorem dX6_nextToken_144 : decode cX6_nextToken 144 = .ok (.iconst 0, 1) := by decide +kernel
theorem dX6_nextToken_145 : decode cX6_nextToken 145 = .ok (.goto 4, 3) := by decide +kernel
theorem dX6_nextToken_148 : decode cX6_nextToken 148 = .ok (.iconst 2, 1) := by decide +kernel
theorem dX6_nextToken_149 : decode cX6_nextToken 149 = .ok (.putfield 85, 3) := by decide +kernel
theorem dX6_nextToken_152 : decode cX6_nextToken 152 = .ok (.goto 77, 3) := by decide +kernel
theorem dX6_nextToken_155 : decode cX6_nextToken 155 = .ok (.aload_n 0, 1) := by decide +kernel
theorem dX6_nextToken_156 : decode cX6_nextToken 156 = .ok (.getfield 85, 3) := by decide +kernel
theorem dX6_nextToken_159 : decode cX6_nextToken 159 = .ok (.ifCond .ne 70, 3) := by decide +kernel
theorem dX6_nextToken_162 : decode cX6_nextToken 162 = .ok (.aload_n 0, 1) := by decide +kernel
theorem dX6_nextToken_163 : decode cX6_nextToken 163 = .ok (.aload_n 0, 1) := by decide +kernel
theorem dX6_nextToken_164 : decode cX6_nextToken 164 = .ok (.getfield 25, 3) := by decide +kernel
theorem dX6_nextToken_167 : decode cX6_nextToken 167 = .ok (.aload_n 0, 1) := by decide +kernel
theorem dX6_nextToken_168 : decode cX6_nextToken 168 = .ok (.getfield 79, 3) := by decide +kernel
theorem dX6_nextToken_171 : decode cX6_nextToken 171 = .ok (.iaload, 1) := by decide +kernel
theorem dX6_nextToken_172 : decode cX6_nextToken 172 = .ok (.putfield 88, 3) := by decide +kernel
theorem dX6_nextToken_175 : decode cX6_nextToken 175 = .ok (.aload_n 0, 1) := by decide +kernel
theorem dX6_nextToken_176 : decode cX6_nextToken 176 = .ok (.aload_n 0, 1) := by decide +kernel
theorem dX6_nextToken_177 : decode cX6_nextToken 177 = .ok (.getfield 88, 3) := by decide +kernel
theorem dX6_nextToken_180 : decode cX6_nextToken 180 = .ok (.i2l, 1) := by decide +kernel
theorem dX6_nextToken_181 : decode cX6_nextToken 181 = .ok (.ldc2_w 95, 3) := by decide +kernel
theorem dX6_nextToken_184 : decode cX6_nextToken 184 = .ok (.ldc2_w 97, 3) := by decide +kernel
theorem dX6_nextToken_187 : decode cX6_nextToken 187 = .ok (.invokestatic 51, 3) := by decide +kernel
theorem dX6_nextToken_190 : decode cX6_nextToken 190 = .ok (.ifCond .ne 21, 3) := by decide +kernel
theorem dX6_nextToken_193 : decode cX6_nextToken 193 = .ok (.aload_n 0, 1) := by decide +kernel
theorem dX6_nextToken_194 : decode cX6_nextToken 194 = .ok (.getfield 88, 3) := by decide +kernel
theorem dX6_nextToken_197 : decode cX6_nextToken 197 = .ok (.bipush 44, 2) := by decide +kernel
theorem dX6_nextToken_199 : decode cX6_nextToken 199 = .ok (.if_icmp .eq 12, 3) := by decide +kernel
theorem dX6_nextToken_202 : decode cX6_nextToken 202 = .ok (.aload_n 0, 1) := by decide +kernel
theorem dX6_nextToken_203 : decode cX6_nextToken 203 = .ok (.getfield 88, 3) := by decide +kernel
theorem dX6_nextToken_206 : decode cX6_nextToken 206 = .ok (.bipush 59, 2) := by decide +kernel
theorem dX6_nextToken_208 : decode cX6_nextToken 208 = .ok (.if_icmp .ne 7, 3) := by decide +kernel
theorem dX6_nextToken_211 : decode cX6_nextToken 211 = .ok (.iconst 1, 1) := by decide +kernel
theorem dX6_nextToken_212 : decode cX6_nextToken 212 = .ok (.goto 4, 3) := by decide +kernel
theorem dX6_nextToken_215 : decode cX6_nextToken 215 = .ok (.iconst 0, 1) := by decide +kernel
theorem dX6_nextToken_216 : decode cX6_nextToken 216 = .ok (.putfield 85, 3) := by decide +kernel
theorem dX6_nextToken_219 : decode cX6_nextToken 219 = .ok (.aload_n 0, 1) := by decide +kernel
theorem dX6_nextToken_220 : decode cX6_nextToken 220 = .ok (.dup, 1) := by decide +kernel
theorem dX6_nextToken_221 : decode cX6_nextToken 221 = .ok (.getfield 79, 3) := by decide +kernel
theorem dX6_nextToken_224 : decode cX6_nextToken 224 = .ok (.iconst 1, 1) := by decide +kernel
theorem dX6_nextToken_225 : decode cX6_nextToken 225 = .ok (.iadd, 1) := by decide +kernel
theorem dX6_nextToken_226 : decode cX6_nextToken 226 = .ok (.putfield 79, 3) := by decide +kernel
theorem dX6_nextToken_229 : decode cX6_nextToken 229 = .ok (.return_, 1) := by decide +kernel
theorem dX6_faults_0 : decode cX6_faults 0 = .ok (.aload_n 0, 1) := by decide +kernel
theorem dX6_faults_1 : decode cX6_faults 1 = .ok (.iload_n 1, 1) := by decide +kernel
theorem dX6_faults_2 : decode cX6_faults 2 = .ok (.putfield 99, 3) := by decide +kernel
theorem dX6_faults_5 : decode cX6_faults 5 = .ok (.iconst 0, 1) := by decide +kernel
theorem dX6_faults_6 : decode cX6_faults 6 = .ok (.ireturn, 1) := by decide +kernel
theorem dX6_isLetter_0 : decode cX6_isLetter 0 = .ok (.aload_n 0, 1) := by decide +kernel
theorem dX6_isLetter_1 : decode cX6_isLetter 1 = .ok (.getfield 85, 3) := by decide +kernel
theorem dX6_isLetter_4 : decode cX6_isLetter 4 = .ok (.iconst 1, 1) := by decide +kernel
theorem dX6_isLetter_5 : decode cX6_isLetter 5 = .ok (.if_icmp .ne 15, 3) := by decide +kernel
theorem dX6_isLetter_8 : decode cX6_isLetter 8 = .ok (.aload_n 0, 1) := by decide +kernel
theorem dX6_isLetter_9 : decode cX6_isLetter 9 = .ok (.getfield 88, 3) := by decide +kernel
theorem dX6_isLetter_12 : decode cX6_isLetter 12 = .ok (.iload_n 1, 1) := by decide +kernel
theorem dX6_isLetter_13 : decode cX6_isLetter 13 = .ok (.if_icmp .ne 7, 3) := by decide +kernel
theorem dX6_isLetter_16 : decode cX6_isLetter 16 = .ok (.iconst 1, 1) := by decide +kernel
theorem dX6_isLetter_17 : decode cX6_isLetter 17 = .ok (.goto 4, 3) := by decide +kernel
theorem dX6_isLetter_20 : decode cX6_isLetter 20 = .ok (.iconst 0, 1) := by decide +kernel
theorem dX6_isLetter_21 : decode cX6_isLetter 21 = .ok (.ireturn, 1) := by decide +kernel
set_option maxRecDepth 20000 in
theorem ggX6_takes_X6_isLetter : GoodIn wsX6_takes wsX6_isLetter := goodIn_r _ [5, 6, 7, 28, 29, 30, 31, 32, 33, 34, 35, 36, 37, 38, 39, 40, 41, 42, 43, 44, 45, 46, 47, 48, 49] (by decide +kernel) (by decide +kernel)
set_option maxRecDepth 20000 in
theorem gX6_takes_X6_isLetter : GoodIn wsX6_takes (wsV RX6 102 RX6 yX6_isLetter wsX6_isLetter) := goodIn_app (goodIn_of _ (by decide +kernel)) ggX6_takes_X6_isLetter
set_option maxRecDepth 20000 in
theorem ggX6_takes_X6_faults : GoodIn wsX6_takes wsX6_faults := goodIn_r _ [11, 12, 28, 29, 30, 31, 32, 33, 34, 35, 36, 37, 38, 39, 40, 41, 42, 43, 44, 45, 46, 47, 48, 49] (by decide +kernel) (by decide +kernel)
set_option maxRecDepth 20000 in
theorem gX6_takes_X6_faults : GoodIn wsX6_takes (wsV RX6 105 RX6 yX6_faults wsX6_faults) := goodIn_app (goodIn_of _ (by decide +kernel)) ggX6_takes_X6_faults
set_option maxRecDepth 20000 in
theorem ggX6_takes_X6_nextToken : GoodIn wsX6_takes wsX6_nextToken := goodIn_r _ [16, 17, 18, 19, 6, 7, 20, 21, 22, 23, 24, 25, 26, 4, 27, 28, 29, 30, 31, 32, 33, 34, 35, 36, 37, 38, 39, 40, 41, 42, 43, 44, 45, 46, 47, 48, 49] (by decide +kernel) (by decide +kernel)
set_option maxRecDepth 20000 in
theorem gX6_takes_X6_nextToken : GoodIn wsX6_takes (wsV RX6 108 RX6 yX6_nextToken wsX6_nextToken) := goodIn_app (goodIn_of _ (by decide +kernel)) ggX6_takes_X6_nextToken
theorem dX6_takes_0 : decode cX6_takes 0 = .ok (.aload_n 0, 1) := by decide +kernel
theorem dX6_takes_1 : decode cX6_takes 1 = .ok (.iload_n 1, 1) := by decide +kernel
theorem dX6_takes_2 : decode cX6_takes 2 = .ok (.invokevirtual 102, 3) := by decide +kernel
theorem dX6_takes_5 : decode cX6_takes 5 = .ok (.ifCond .ne 9, 3) := by decide +kernel
theorem dX6_takes_8 : decode cX6_takes 8 = .ok (.aload_n 0, 1) := by decide +kernel
theorem dX6_takes_9 : decode cX6_takes 9 = .ok (.iconst 1, 1) := by decide +kernel
theorem dX6_takes_10 : decode cX6_takes 10 = .ok (.invokevirtual 105, 3) := by decide +kernel
theorem dX6_takes_13 : decode cX6_takes 13 = .ok (.ireturn, 1) := by decide +kernel
theorem dX6_takes_14 : decode cX6_takes 14 = .ok (.aload_n 0, 1) := by decide +kernel
theorem dX6_takes_15 : decode cX6_takes 15 = .ok (.invokevirtual 108, 3) := by decide +kernel
theorem dX6_takes_18 : decode cX6_takes 18 = .ok (.iconst 1, 1) := by decide +kernel
theorem dX6_takes_19 : decode cX6_takes 19 = .ok (.ireturn, 1) := by decide +kernel
set_option maxRecDepth 20000 in
theorem ggX6_takesNumber_X6_in : GoodIn wsX6_takesNumber wsX6_in := goodIn_r _ [7] (by decide +kernel) (by decide +kernel)
set_option maxRecDepth 20000 in
theorem gX6_takesNumber_X6_in : GoodIn wsX6_takesNumber (va_wsS RX6 51 yX6_in wsX6_in) := goodIn_app (goodIn_of _ (by decide +kernel)) ggX6_takesNumber_X6_in
set_option maxRecDepth 20000 in
theorem ggX6_takesNumber_X6_faults : GoodIn wsX6_takesNumber wsX6_faults := goodIn_r _ [11, 12, 33, 34, 35, 36, 37, 38, 39, 40, 41, 42, 43, 44, 45, 46, 47, 48, 49, 50, 51, 52, 53, 54] (by decide +kernel) (by decide +kernel)
set_option maxRecDepth 20000 in
theorem gX6_takesNumber_X6_faults : GoodIn wsX6_takesNumber (wsV RX6 105 RX6 yX6_faults wsX6_faults) := goodIn_app (goodIn_of _ (by decide +kernel)) ggX6_takesNumber_X6_faults
set_option maxRecDepth 20000 in
theorem ggX6_takesNumber_X6_nextToken : GoodIn wsX6_takesNumber wsX6_nextToken := goodIn_r _ [16, 17, 18, 19, 1, 2, 20, 21, 22, 23, 24, 4, 5, 6, 7, 33, 34, 35, 36, 37, 38, 39, 40, 41, 42, 43, 44, 45, 46, 47, 48, 49, 50, 51, 52, 53, 54] (by decide +kernel) (by decide +kernel)
set_option maxRecDepth 20000 in
theorem gX6_takesNumber_X6_nextToken : GoodIn wsX6_takesNumber (wsV RX6 108 RX6 yX6_nextToken wsX6_nextToken) := goodIn_app (goodIn_of _ (by decide +kernel)) ggX6_takesNumber_X6_nextToken
set_option maxRecDepth 20000 in
theorem ggX6_takesNumber_X6_takes : GoodIn wsX6_takesNumber wsX6_takes := goodIn_r _ [28, 29, 30, 31, 6, 32, 1, 2, 8, 9, 10, 11, 12, 13, 14, 15, 16, 17, 18, 19, 20, 21, 22, 23, 24, 4, 5, 7, 33, 34, 35, 36, 37, 38, 39, 40, 41, 42, 43, 44, 45, 46, 47, 48, 49, 50, 51, 52, 53, 54] (by decide +kernel) (by decide +kernel)
set_option maxRecDepth 20000 in
theorem gX6_takesNumber_X6_takes : GoodIn wsX6_takesNumber (wsV RX6 111 RX6 yX6_takes wsX6_takes) := goodIn_app (goodIn_of _ (by decide +kernel)) ggX6_takesNumber_X6_takes
theorem dX6_takesNumber_0 : decode cX6_takesNumber 0 = .ok (.aload_n 0, 1) := by decide +kernel
theorem dX6_takesNumber_1 : decode cX6_takesNumber 1 = .ok (.getfield 85, 3) := by decide +kernel
theorem dX6_takesNumber_4 : decode cX6_takesNumber 4 = .ok (.iconst 2, 1) := by decide +kernel
theorem dX6_takesNumber_5 : decode cX6_takesNumber 5 = .ok (.if_icmp .ne 18, 3) := by decide +kernel
theorem dX6_takesNumber_8 : decode cX6_takesNumber 8 = .ok (.aload_n 0, 1) := by decide +kernel
theorem dX6_takesNumber_9 : decode cX6_takesNumber 9 = .ok (.getfield 88, 3) := by decide +kernel
theorem dX6_takesNumber_12 : decode cX6_takesNumber 12 = .ok (.i2l, 1) := by decide +kernel
theorem dX6_takesNumber_13 : decode cX6_takesNumber 13 = .ok (.iload_n 1, 1) := by decide +kernel
theorem dX6_takesNumber_14 : decode cX6_takesNumber 14 = .ok (.i2l, 1) := by decide +kernel
theorem dX6_takesNumber_15 : decode cX6_takesNumber 15 = .ok (.iload_n 2, 1) := by decide +kernel
theorem dX6_takesNumber_16 : decode cX6_takesNumber 16 = .ok (.i2l, 1) := by decide +kernel
theorem dX6_takesNumber_17 : decode cX6_takesNumber 17 = .ok (.invokestatic 51, 3) := by decide +kernel
theorem dX6_takesNumber_20 : decode cX6_takesNumber 20 = .ok (.ifCond .ne 21, 3) := by decide +kernel
theorem dX6_takesNumber_23 : decode cX6_takesNumber 23 = .ok (.aload_n 0, 1) := by decide +kernel
theorem dX6_takesNumber_24 : decode cX6_takesNumber 24 = .ok (.aload_n 0, 1) := by decide +kernel
theorem dX6_takesNumber_25 : decode cX6_takesNumber 25 = .ok (.getfield 85, 3) := by decide +kernel
theorem dX6_takesNumber_28 : decode cX6_takesNumber 28 = .ok (.iconst 2, 1) := by decide +kernel
theorem dX6_takesNumber_29 : decode cX6_takesNumber 29 = .ok (.if_icmp .ne 7, 3) := by decide +kernel
theorem dX6_takesNumber_32 : decode cX6_takesNumber 32 = .ok (.iconst 2, 1) := by decide +kernel
theorem dX6_takesNumber_33 : decode cX6_takesNumber 33 = .ok (.goto 4, 3) := by decide +kernel
theorem dX6_takesNumber_36 : decode cX6_takesNumber 36 = .ok (.iconst 1, 1) := by decide +kernel
theorem dX6_takesNumber_37 : decode cX6_takesNumber 37 = .ok (.invokevirtual 105, 3) := by decide +kernel
theorem dX6_takesNumber_40 : decode cX6_takesNumber 40 = .ok (.ireturn, 1) := by decide +kernel
theorem dX6_takesNumber_41 : decode cX6_takesNumber 41 = .ok (.aload_n 0, 1) := by decide +kernel
theorem dX6_takesNumber_42 : decode cX6_takesNumber 42 = .ok (.getfield 28, 3) := by decide +kernel
theorem dX6_takesNumber_45 : decode cX6_takesNumber 45 = .ok (.iload_n 3, 1) := by decide +kernel
theorem dX6_takesNumber_46 : decode cX6_takesNumber 46 = .ok (.aload_n 0, 1) := by decide +kernel
theorem dX6_takesNumber_47 : decode cX6_takesNumber 47 = .ok (.getfield 88, 3) := by decide +kernel
theorem dX6_takesNumber_50 : decode cX6_takesNumber 50 = .ok (.iastore, 1) := by decide +kernel
theorem dX6_takesNumber_51 : decode cX6_takesNumber 51 = .ok (.aload_n 0, 1) := by decide +kernel
theorem dX6_takesNumber_52 : decode cX6_takesNumber 52 = .ok (.invokevirtual 108, 3) := by decide +kernel
theorem dX6_takesNumber_55 : decode cX6_takesNumber 55 = .ok (.aload_n 0, 1) := by decide +kernel
theorem dX6_takesNumber_56 : decode cX6_takesNumber 56 = .ok (.iload 4, 2) := by decide +kernel
theorem dX6_takesNumber_58 : decode cX6_takesNumber 58 = .ok (.invokevirtual 111, 3) := by decide +kernel
theorem dX6_takesNumber_61 : decode cX6_takesNumber 61 = .ok (.ireturn, 1) := by decide +kernel
set_option maxRecDepth 20000 in
theorem ggX6_readTie_X6_faults : GoodIn wsX6_readTie wsX6_faults := goodIn_r _ [6, 7, 37, 38, 39, 40, 41, 42, 43, 44, 45, 46, 47, 48, 49, 50, 51, 52, 53, 54, 55, 56, 57, 58] (by decide +kernel) (by decide +kernel)
set_option maxRecDepth 20000 in
theorem gX6_readTie_X6_faults : GoodIn wsX6_readTie (wsV RX6 105 RX6 yX6_faults wsX6_faults) := goodIn_app (goodIn_of _ (by decide +kernel)) ggX6_readTie_X6_faults
set_option maxRecDepth 20000 in
theorem ggX6_readTie_X6_nextToken : GoodIn wsX6_readTie wsX6_nextToken := goodIn_r _ [11, 12, 13, 14, 15, 16, 17, 18, 19, 20, 21, 22, 23, 5, 24, 37, 38, 39, 40, 41, 42, 43, 44, 45, 46, 47, 48, 49, 50, 51, 52, 53, 54, 55, 56, 57, 58] (by decide +kernel) (by decide +kernel)
set_option maxRecDepth 20000 in
theorem gX6_readTie_X6_nextToken : GoodIn wsX6_readTie (wsV RX6 108 RX6 yX6_nextToken wsX6_nextToken) := goodIn_app (goodIn_of _ (by decide +kernel)) ggX6_readTie_X6_nextToken
set_option maxRecDepth 20000 in
theorem ggX6_readTie_X6_takesNumber : GoodIn wsX6_readTie wsX6_takesNumber := goodIn_r _ [28, 15, 16, 1, 22, 23, 5, 24, 2, 3, 4, 6, 7, 8, 9, 10, 11, 12, 13, 14, 17, 18, 19, 20, 21, 29, 30, 31, 32, 33, 34, 35, 36, 37, 38, 39, 40, 41, 42, 43, 44, 45, 46, 47, 48, 49, 50, 51, 52, 53, 54, 55, 56, 57, 58] (by decide +kernel) (by decide +kernel)
set_option maxRecDepth 20000 in
theorem gX6_readTie_X6_takesNumber : GoodIn wsX6_readTie (wsV RX6 114 RX6 yX6_takesNumber wsX6_takesNumber) := goodIn_app (goodIn_of _ (by decide +kernel)) ggX6_readTie_X6_takesNumber
theorem dX6_readTie_0 : decode cX6_readTie 0 = .ok (.aload_n 0, 1) := by decide +kernel
theorem dX6_readTie_1 : decode cX6_readTie 1 = .ok (.getfield 28, 3) := by decide +kernel
theorem dX6_readTie_4 : decode cX6_readTie 4 = .ok (.iconst 1, 1) := by decide +kernel
theorem dX6_readTie_5 : decode cX6_readTie 5 = .ok (.iaload, 1) := by decide +kernel
theorem dX6_readTie_6 : decode cX6_readTie 6 = .ok (.istore_n 2, 1) := by decide +kernel
theorem dX6_readTie_7 : decode cX6_readTie 7 = .ok (.iload_n 2, 1) := by decide +kernel
theorem dX6_readTie_8 : decode cX6_readTie 8 = .ok (.bipush 8, 2) := by decide +kernel
theorem dX6_readTie_10 : decode cX6_readTie 10 = .ok (.if_icmp .ne 9, 3) := by decide +kernel
theorem dX6_readTie_13 : decode cX6_readTie 13 = .ok (.aload_n 0, 1) := by decide +kernel
theorem dX6_readTie_14 : decode cX6_readTie 14 = .ok (.iconst 3, 1) := by decide +kernel
theorem dX6_readTie_15 : decode cX6_readTie 15 = .ok (.invokevirtual 105, 3) := by decide +kernel
theorem dX6_readTie_18 : decode cX6_readTie 18 = .ok (.ireturn, 1) := by decide +kernel
theorem dX6_readTie_19 : decode cX6_readTie 19 = .ok (.aload_n 0, 1) := by decide +kernel
theorem dX6_readTie_20 : decode cX6_readTie 20 = .ok (.invokevirtual 108, 3) := by decide +kernel
theorem dX6_readTie_23 : decode cX6_readTie 23 = .ok (.aload_n 0, 1) := by decide +kernel
theorem dX6_readTie_24 : decode cX6_readTie 24 = .ok (.getfield 28, 3) := by decide +kernel
theorem dX6_readTie_27 : decode cX6_readTie 27 = .ok (.iconst 5, 1) := by decide +kernel
theorem dX6_readTie_28 : decode cX6_readTie 28 = .ok (.iload_n 2, 1) := by decide +kernel
theorem dX6_readTie_29 : decode cX6_readTie 29 = .ok (.iadd, 1) := by decide +kernel
theorem dX6_readTie_30 : decode cX6_readTie 30 = .ok (.iload_n 1, 1) := by decide +kernel
theorem dX6_readTie_31 : decode cX6_readTie 31 = .ok (.iastore, 1) := by decide +kernel
theorem dX6_readTie_32 : decode cX6_readTie 32 = .ok (.aload_n 0, 1) := by decide +kernel
theorem dX6_readTie_33 : decode cX6_readTie 33 = .ok (.getfield 28, 3) := by decide +kernel
theorem dX6_readTie_36 : decode cX6_readTie 36 = .ok (.iconst 1, 1) := by decide +kernel
theorem dX6_readTie_37 : decode cX6_readTie 37 = .ok (.dup2, 1) := by decide +kernel
theorem dX6_readTie_38 : decode cX6_readTie 38 = .ok (.iaload, 1) := by decide +kernel
theorem dX6_readTie_39 : decode cX6_readTie 39 = .ok (.iconst 1, 1) := by decide +kernel
theorem dX6_readTie_40 : decode cX6_readTie 40 = .ok (.iadd, 1) := by decide +kernel
theorem dX6_readTie_41 : decode cX6_readTie 41 = .ok (.iastore, 1) := by decide +kernel
theorem dX6_readTie_42 : decode cX6_readTie 42 = .ok (.aload_n 0, 1) := by decide +kernel
theorem dX6_readTie_43 : decode cX6_readTie 43 = .ok (.iconst 1, 1) := by decide +kernel
theorem dX6_readTie_44 : decode cX6_readTie 44 = .ok (.iconst 1, 1) := by decide +kernel
theorem dX6_readTie_45 : decode cX6_readTie 45 = .ok (.aload_n 0, 1) := by decide +kernel
theorem dX6_readTie_46 : decode cX6_readTie 46 = .ok (.getfield 28, 3) := by decide +kernel
theorem dX6_readTie_49 : decode cX6_readTie 49 = .ok (.iconst 0, 1) := by decide +kernel
theorem dX6_readTie_50 : decode cX6_readTie 50 = .ok (.iaload, 1) := by decide +kernel
theorem dX6_readTie_51 : decode cX6_readTie 51 = .ok (.ishl, 1) := by decide +kernel
theorem dX6_readTie_52 : decode cX6_readTie 52 = .ok (.iconst 1, 1) := by decide +kernel
theorem dX6_readTie_53 : decode cX6_readTie 53 = .ok (.isub, 1) := by decide +kernel
theorem dX6_readTie_54 : decode cX6_readTie 54 = .ok (.bipush 13, 2) := by decide +kernel
theorem dX6_readTie_56 : decode cX6_readTie 56 = .ok (.iload_n 2, 1) := by decide +kernel
theorem dX6_readTie_57 : decode cX6_readTie 57 = .ok (.iadd, 1) := by decide +kernel
theorem dX6_readTie_58 : decode cX6_readTie 58 = .ok (.bipush 44, 2) := by decide +kernel
theorem dX6_readTie_60 : decode cX6_readTie 60 = .ok (.invokevirtual 114, 3) := by decide +kernel
theorem dX6_readTie_63 : decode cX6_readTie 63 = .ok (.ifCond .eq 23, 3) := by decide +kernel
theorem dX6_readTie_66 : decode cX6_readTie 66 = .ok (.aload_n 0, 1) := by decide +kernel
theorem dX6_readTie_67 : decode cX6_readTie 67 = .ok (.iconst 0, 1) := by decide +kernel
theorem dX6_readTie_68 : decode cX6_readTie 68 = .ok (.bipush 40, 2) := by decide +kernel
theorem dX6_readTie_70 : decode cX6_readTie 70 = .ok (.bipush 21, 2) := by decide +kernel
theorem dX6_readTie_72 : decode cX6_readTie 72 = .ok (.iload_n 2, 1) := by decide +kernel
theorem dX6_readTie_73 : decode cX6_readTie 73 = .ok (.iadd, 1) := by decide +kernel
theorem dX6_readTie_74 : decode cX6_readTie 74 = .ok (.bipush 59, 2) := by decide +kernel
theorem dX6_readTie_76 : decode cX6_readTie 76 = .ok (.invokevirtual 114, 3) := by decide +kernel
theorem dX6_readTie_79 : decode cX6_readTie 79 = .ok (.ifCond .eq 7, 3) := by decide +kernel
theorem dX6_readTie_82 : decode cX6_readTie 82 = .ok (.iconst 1, 1) := by decide +kernel
theorem dX6_readTie_83 : decode cX6_readTie 83 = .ok (.goto 4, 3) := by decide +kernel
theorem dX6_readTie_86 : decode cX6_readTie 86 = .ok (.iconst 0, 1) := by decide +kernel
theorem dX6_readTie_87 : decode cX6_readTie 87 = .ok (.ireturn, 1) := by decide +kernel
set_option maxRecDepth 20000 in
theorem ggX6_readTable_X6_nextToken : GoodIn wsX6_readTable wsX6_nextToken := goodIn_r _ [8, 1, 9, 10, 3, 11, 12, 13, 14, 15, 16, 17, 18, 7, 19, 41, 42, 43, 44, 45, 46, 47, 48, 49, 50, 51, 52, 53, 54, 55, 56, 57, 58, 59, 60, 61, 62] (by decide +kernel) (by decide +kernel)
set_option maxRecDepth 20000 in
theorem gX6_readTable_X6_nextToken : GoodIn wsX6_readTable (wsV RX6 108 RX6 yX6_nextToken wsX6_nextToken) := goodIn_app (goodIn_of _ (by decide +kernel)) ggX6_readTable_X6_nextToken
set_option maxRecDepth 20000 in
theorem ggX6_readTable_X6_takes : GoodIn wsX6_readTable wsX6_takes := goodIn_r _ [23, 24, 25, 26, 7, 27, 3, 11, 28, 29, 30, 31, 32, 4, 5, 6, 8, 1, 9, 10, 12, 13, 14, 15, 16, 17, 18, 19, 41, 42, 43, 44, 45, 46, 47, 48, 49, 50, 51, 52, 53, 54, 55, 56, 57, 58, 59, 60, 61, 62] (by decide +kernel) (by decide +kernel)
set_option maxRecDepth 20000 in
theorem gX6_readTable_X6_takes : GoodIn wsX6_readTable (wsV RX6 111 RX6 yX6_takes wsX6_takes) := goodIn_app (goodIn_of _ (by decide +kernel)) ggX6_readTable_X6_takes
set_option maxRecDepth 20000 in
theorem ggX6_readTable_X6_takesNumber : GoodIn wsX6_readTable wsX6_takesNumber := goodIn_r _ [36, 3, 11, 2, 17, 18, 7, 19, 28, 29, 30, 31, 32, 4, 5, 6, 8, 1, 9, 10, 12, 13, 14, 15, 16, 20, 21, 22, 23, 24, 25, 26, 27, 41, 42, 43, 44, 45, 46, 47, 48, 49, 50, 51, 52, 53, 54, 55, 56, 57, 58, 59, 60, 61, 62] (by decide +kernel) (by decide +kernel)
set_option maxRecDepth 20000 in
theorem gX6_readTable_X6_takesNumber : GoodIn wsX6_readTable (wsV RX6 114 RX6 yX6_takesNumber wsX6_takesNumber) := goodIn_app (goodIn_of _ (by decide +kernel)) ggX6_readTable_X6_takesNumber
set_option maxRecDepth 20000 in
theorem ggX6_readTable_X6_isLetter : GoodIn wsX6_readTable wsX6_isLetter := goodIn_r _ [27, 3, 11, 41, 42, 43, 44, 45, 46, 47, 48, 49, 50, 51, 52, 53, 54, 55, 56, 57, 58, 59, 60, 61, 62] (by decide +kernel) (by decide +kernel)
set_option maxRecDepth 20000 in
theorem gX6_readTable_X6_isLetter : GoodIn wsX6_readTable (wsV RX6 102 RX6 yX6_isLetter wsX6_isLetter) := goodIn_app (goodIn_of _ (by decide +kernel)) ggX6_readTable_X6_isLetter
set_option maxRecDepth 20000 in
theorem ggX6_readTable_X6_readTie : GoodIn wsX6_readTable wsX6_readTie := goodIn_r _ [40, 2, 28, 29, 30, 7, 31, 32, 4, 5, 6, 8, 1, 9, 10, 3, 11, 12, 13, 14, 15, 16, 17, 18, 19, 33, 34, 35, 36, 20, 21, 22, 23, 24, 25, 26, 27, 41, 42, 43, 44, 45, 46, 47, 48, 49, 50, 51, 52, 53, 54, 55, 56, 57, 58, 59, 60, 61, 62] (by decide +kernel) (by decide +kernel)
set_option maxRecDepth 20000 in
theorem gX6_readTable_X6_readTie : GoodIn wsX6_readTable (wsV RX6 118 RX6 yX6_readTie wsX6_readTie) := goodIn_app (goodIn_of _ (by decide +kernel)) ggX6_readTable_X6_readTie
set_option maxRecDepth 20000 in
theorem ggX6_readTable_X6_faults : GoodIn wsX6_readTable wsX6_faults := goodIn_r _ [31, 32, 41, 42, 43, 44, 45, 46, 47, 48, 49, 50, 51, 52, 53, 54, 55, 56, 57, 58, 59, 60, 61, 62] (by decide +kernel) (by decide +kernel)
set_option maxRecDepth 20000 in
theorem gX6_readTable_X6_faults : GoodIn wsX6_readTable (wsV RX6 105 RX6 yX6_faults wsX6_faults) := goodIn_app (goodIn_of _ (by decide +kernel)) ggX6_readTable_X6_faults
theorem dX6_readTable_0 : decode cX6_readTable 0 = .ok (.aload_n 0, 1) := by decide +kernel
theorem dX6_readTable_1 : decode cX6_readTable 1 = .ok (.iconst 0, 1) := by decide +kernel
theorem dX6_readTable_2 : decode cX6_readTable 2 = .ok (.putfield 79, 3) := by decide +kernel
theorem dX6_readTable_5 : decode cX6_readTable 5 = .ok (.iconst 0, 1) := by decide +kernel
theorem dX6_readTable_6 : decode cX6_readTable 6 = .ok (.istore_n 1, 1) := by decide +kernel
theorem dX6_readTable_7 : decode cX6_readTable 7 = .ok (.iload_n 1, 1) := by decide +kernel
theorem dX6_readTable_8 : decode cX6_readTable 8 = .ok (.bipush 29, 2) := by decide +kernel
theorem dX6_readTable_10 : decode cX6_readTable 10 = .ok (.if_icmp .ge 16, 3) := by decide +kernel
theorem dX6_readTable_13 : decode cX6_readTable 13 = .ok (.aload_n 0, 1) := by decide +kernel
theorem dX6_readTable_14 : decode cX6_readTable 14 = .ok (.getfield 28, 3) := by decide +kernel
theorem dX6_readTable_17 : decode cX6_readTable 17 = .ok (.iload_n 1, 1) := by decide +kernel
theorem dX6_readTable_18 : decode cX6_readTable 18 = .ok (.iconst 0, 1) := by decide +kernel
theorem dX6_readTable_19 : decode cX6_readTable 19 = .ok (.iastore, 1) := by decide +kernel
theorem dX6_readTable_20 : decode cX6_readTable 20 = .ok (.iinc 1 1, 3) := by decide +kernel
theorem dX6_readTable_23 : decode cX6_readTable 23 = .ok (.goto (-16), 3) := by decide +kernel
theorem dX6_readTable_26 : decode cX6_readTable 26 = .ok (.aload_n 0, 1) := by decide +kernel
theorem dX6_readTable_27 : decode cX6_readTable 27 = .ok (.invokevirtual 108, 3) := by decide +kernel
theorem dX6_readTable_30 : decode cX6_readTable 30 = .ok (.aload_n 0, 1) := by decide +kernel
theorem dX6_readTable_31 : decode cX6_readTable 31 = .ok (.bipush 116, 2) := by decide +kernel
theorem dX6_readTable_33 : decode cX6_readTable 33 = .ok (.invokevirtual 111, 3) := by decide +kernel
theorem dX6_readTable_36 : decode cX6_readTable 36 = .ok (.ifCond .eq 16, 3) := by decide +kernel
theorem dX6_readTable_39 : decode cX6_readTable 39 = .ok (.aload_n 0, 1) := by decide +kernel
theorem dX6_readTable_40 : decode cX6_readTable 40 = .ok (.iconst 2, 1) := by decide +kernel
theorem dX6_readTable_41 : decode cX6_readTable 41 = .ok (.bipush 6, 2) := by decide +kernel
theorem dX6_readTable_43 : decode cX6_readTable 43 = .ok (.iconst 0, 1) := by decide +kernel
theorem dX6_readTable_44 : decode cX6_readTable 44 = .ok (.bipush 59, 2) := by decide +kernel
theorem dX6_readTable_46 : decode cX6_readTable 46 = .ok (.invokevirtual 114, 3) := by decide +kernel
theorem dX6_readTable_49 : decode cX6_readTable 49 = .ok (.ifCond .ne 5, 3) := by decide +kernel
theorem dX6_readTable_52 : decode cX6_readTable 52 = .ok (.iconst 0, 1) := by decide +kernel
theorem dX6_readTable_53 : decode cX6_readTable 53 = .ok (.ireturn, 1) := by decide +kernel
theorem dX6_readTable_54 : decode cX6_readTable 54 = .ok (.iconst 1, 1) := by decide +kernel
theorem dX6_readTable_55 : decode cX6_readTable 55 = .ok (.istore_n 1, 1) := by decide +kernel
theorem dX6_readTable_56 : decode cX6_readTable 56 = .ok (.iload_n 1, 1) := by decide +kernel
theorem dX6_readTable_57 : decode cX6_readTable 57 = .ok (.ifCond .eq 99, 3) := by decide +kernel
theorem dX6_readTable_60 : decode cX6_readTable 60 = .ok (.aload_n 0, 1) := by decide +kernel
theorem dX6_readTable_61 : decode cX6_readTable 61 = .ok (.getfield 85, 3) := by decide +kernel
theorem dX6_readTable_64 : decode cX6_readTable 64 = .ok (.iconst 3, 1) := by decide +kernel
theorem dX6_readTable_65 : decode cX6_readTable 65 = .ok (.if_icmp .eq 91, 3) := by decide +kernel
theorem dX6_readTable_68 : decode cX6_readTable 68 = .ok (.aload_n 0, 1) := by decide +kernel
theorem dX6_readTable_69 : decode cX6_readTable 69 = .ok (.bipush 97, 2) := by decide +kernel
theorem dX6_readTable_71 : decode cX6_readTable 71 = .ok (.invokevirtual 102, 3) := by decide +kernel
theorem dX6_readTable_74 : decode cX6_readTable 74 = .ok (.ifCond .eq 7, 3) := by decide +kernel
theorem dX6_readTable_77 : decode cX6_readTable 77 = .ok (.iconst 1, 1) := by decide +kernel
theorem dX6_readTable_78 : decode cX6_readTable 78 = .ok (.goto 56, 3) := by decide +kernel
theorem dX6_readTable_81 : decode cX6_readTable 81 = .ok (.aload_n 0, 1) := by decide +kernel
theorem dX6_readTable_82 : decode cX6_readTable 82 = .ok (.bipush 113, 2) := by decide +kernel
theorem dX6_readTable_84 : decode cX6_readTable 84 = .ok (.invokevirtual 102, 3) := by decide +kernel
theorem dX6_readTable_87 : decode cX6_readTable 87 = .ok (.ifCond .eq 7, 3) := by decide +kernel
theorem dX6_readTable_90 : decode cX6_readTable 90 = .ok (.iconst 2, 1) := by decide +kernel
theorem dX6_readTable_91 : decode cX6_readTable 91 = .ok (.goto 43, 3) := by decide +kernel
theorem dX6_readTable_94 : decode cX6_readTable 94 = .ok (.aload_n 0, 1) := by decide +kernel
theorem dX6_readTable_95 : decode cX6_readTable 95 = .ok (.bipush 109, 2) := by decide +kernel
theorem dX6_readTable_97 : decode cX6_readTable 97 = .ok (.invokevirtual 102, 3) := by decide +kernel
theorem dX6_readTable_100 : decode cX6_readTable 100 = .ok (.ifCond .eq 7, 3) := by decide +kernel
theorem dX6_readTable_103 : decode cX6_readTable 103 = .ok (.iconst 3, 1) := by decide +kernel
theorem dX6_readTable_104 : decode cX6_readTable 104 = .ok (.goto 30, 3) := by decide +kernel
theorem dX6_readTable_107 : decode cX6_readTable 107 = .ok (.aload_n 0, 1) := by decide +kernel
theorem dX6_readTable_108 : decode cX6_readTable 108 = .ok (.bipush 121, 2) := by decide +kernel
theorem dX6_readTable_110 : decode cX6_readTable 110 = .ok (.invokevirtual 102, 3) := by decide +kernel
theorem dX6_readTable_113 : decode cX6_readTable 113 = .ok (.ifCond .eq 7, 3) := by decide +kernel
theorem dX6_readTable_116 : decode cX6_readTable 116 = .ok (.iconst 4, 1) := by decide +kernel
theorem dX6_readTable_117 : decode cX6_readTable 117 = .ok (.goto 17, 3) := by decide +kernel
theorem dX6_readTable_120 : decode cX6_readTable 120 = .ok (.aload_n 0, 1) := by decide +kernel
theorem dX6_readTable_121 : decode cX6_readTable 121 = .ok (.bipush 110, 2) := by decide +kernel
theorem dX6_readTable_123 : decode cX6_readTable 123 = .ok (.invokevirtual 102, 3) := by decide +kernel
theorem dX6_readTable_126 : decode cX6_readTable 126 = .ok (.ifCond .eq 7, 3) := by decide +kernel
theorem dX6_readTable_129 : decode cX6_readTable 129 = .ok (.iconst 5, 1) := by decide +kernel
theorem dX6_readTable_130 : decode cX6_readTable 130 = .ok (.goto 4, 3) := by decide +kernel
theorem dX6_readTable_133 : decode cX6_readTable 133 = .ok (.iconst 0, 1) := by decide +kernel
theorem dX6_readTable_134 : decode cX6_readTable 134 = .ok (.istore_n 2, 1) := by decide +kernel
theorem dX6_readTable_135 : decode cX6_readTable 135 = .ok (.iload_n 2, 1) := by decide +kernel
theorem dX6_readTable_136 : decode cX6_readTable 136 = .ok (.ifCond .le 11, 3) := by decide +kernel
theorem dX6_readTable_139 : decode cX6_readTable 139 = .ok (.aload_n 0, 1) := by decide +kernel
theorem dX6_readTable_140 : decode cX6_readTable 140 = .ok (.iload_n 2, 1) := by decide +kernel
theorem dX6_readTable_141 : decode cX6_readTable 141 = .ok (.invokevirtual 118, 3) := by decide +kernel
theorem dX6_readTable_144 : decode cX6_readTable 144 = .ok (.goto 8, 3) := by decide +kernel
theorem dX6_readTable_147 : decode cX6_readTable 147 = .ok (.aload_n 0, 1) := by decide +kernel
theorem dX6_readTable_148 : decode cX6_readTable 148 = .ok (.iconst 1, 1) := by decide +kernel
theorem dX6_readTable_149 : decode cX6_readTable 149 = .ok (.invokevirtual 105, 3) := by decide +kernel
theorem dX6_readTable_152 : decode cX6_readTable 152 = .ok (.istore_n 1, 1) := by decide +kernel
theorem dX6_readTable_153 : decode cX6_readTable 153 = .ok (.goto (-97), 3) := by decide +kernel
theorem dX6_readTable_156 : decode cX6_readTable 156 = .ok (.iload_n 1, 1) := by decide +kernel
theorem dX6_readTable_157 : decode cX6_readTable 157 = .ok (.ireturn, 1) := by decide +kernel
set_option maxRecDepth 20000 in
theorem ggX6_table_X6_readTable : GoodIn wsX6_table wsX6_readTable := goodIn_r _ [14, 15, 7, 16, 17, 18, 19, 13, 20, 5, 1, 21, 22, 23, 24, 25, 26, 27, 28, 29, 30, 31, 32, 33, 34, 35, 36, 37, 38, 39, 40, 41, 2, 42, 43, 44, 45, 46, 47, 48, 49, 50, 51, 52, 53, 54, 55, 56, 57, 58, 59, 60, 61, 62, 63, 64, 65, 66, 67, 68, 69, 70, 71] (by decide +kernel) (by decide +kernel)
set_option maxRecDepth 20000 in
theorem gX6_table_X6_readTable : GoodIn wsX6_table (wsV RX6 121 RX6 yX6_readTable wsX6_readTable) := goodIn_app (goodIn_of _ (by decide +kernel)) ggX6_table_X6_readTable
theorem dX6_table_0 : decode cX6_table 0 = .ok (.aload_n 0, 1) := by decide +kernel
theorem dX6_table_1 : decode cX6_table 1 = .ok (.invokevirtual 121, 3) := by decide +kernel
theorem dX6_table_4 : decode cX6_table 4 = .ok (.istore_n 1, 1) := by decide +kernel
theorem dX6_table_5 : decode cX6_table 5 = .ok (.aload_n 0, 1) := by decide +kernel
theorem dX6_table_6 : decode cX6_table 6 = .ok (.iconst 0, 1) := by decide +kernel
theorem dX6_table_7 : decode cX6_table 7 = .ok (.putfield 75, 3) := by decide +kernel
theorem dX6_table_10 : decode cX6_table 10 = .ok (.iload_n 1, 1) := by decide +kernel
theorem dX6_table_11 : decode cX6_table 11 = .ok (.ifCond .ne 19, 3) := by decide +kernel
theorem dX6_table_14 : decode cX6_table 14 = .ok (.aload_n 0, 1) := by decide +kernel
theorem dX6_table_15 : decode cX6_table 15 = .ok (.aload_n 0, 1) := by decide +kernel
theorem dX6_table_16 : decode cX6_table 16 = .ok (.getfield 99, 3) := by decide +kernel
theorem dX6_table_19 : decode cX6_table 19 = .ok (.putfield 125, 3) := by decide +kernel
theorem dX6_table_22 : decode cX6_table 22 = .ok (.ldc 128, 2) := by decide +kernel
theorem dX6_table_24 : decode cX6_table 24 = .ok (.aload_n 0, 1) := by decide +kernel
theorem dX6_table_25 : decode cX6_table 25 = .ok (.getfield 82, 3) := by decide +kernel
theorem dX6_table_28 : decode cX6_table 28 = .ok (.isub, 1) := by decide +kernel
theorem dX6_table_29 : decode cX6_table 29 = .ok (.ireturn, 1) := by decide +kernel
theorem dX6_table_30 : decode cX6_table 30 = .ok (.iconst 0, 1) := by decide +kernel
theorem dX6_table_31 : decode cX6_table 31 = .ok (.istore_n 2, 1) := by decide +kernel
theorem dX6_table_32 : decode cX6_table 32 = .ok (.iload_n 2, 1) := by decide +kernel
theorem dX6_table_33 : decode cX6_table 33 = .ok (.bipush 29, 2) := by decide +kernel
theorem dX6_table_35 : decode cX6_table 35 = .ok (.if_icmp .ge 21, 3) := by decide +kernel
theorem dX6_table_38 : decode cX6_table 38 = .ok (.aload_n 0, 1) := by decide +kernel
theorem dX6_table_39 : decode cX6_table 39 = .ok (.getfield 19, 3) := by decide +kernel
theorem dX6_table_42 : decode cX6_table 42 = .ok (.iload_n 2, 1) := by decide +kernel
theorem dX6_table_43 : decode cX6_table 43 = .ok (.aload_n 0, 1) := by decide +kernel
theorem dX6_table_44 : decode cX6_table 44 = .ok (.getfield 28, 3) := by decide +kernel
theorem dX6_table_47 : decode cX6_table 47 = .ok (.iload_n 2, 1) := by decide +kernel
theorem dX6_table_48 : decode cX6_table 48 = .ok (.iaload, 1) := by decide +kernel
theorem dX6_table_49 : decode cX6_table 49 = .ok (.iastore, 1) := by decide +kernel
theorem dX6_table_50 : decode cX6_table 50 = .ok (.iinc 2 1, 3) := by decide +kernel
theorem dX6_table_53 : decode cX6_table 53 = .ok (.goto (-21), 3) := by decide +kernel
theorem dX6_table_56 : decode cX6_table 56 = .ok (.aload_n 0, 1) := by decide +kernel
theorem dX6_table_57 : decode cX6_table 57 = .ok (.iconst 1, 1) := by decide +kernel
theorem dX6_table_58 : decode cX6_table 58 = .ok (.putfield 129, 3) := by decide +kernel
theorem dX6_table_61 : decode cX6_table 61 = .ok (.aload_n 0, 1) := by decide +kernel
theorem dX6_table_62 : decode cX6_table 62 = .ok (.iconst 0, 1) := by decide +kernel
theorem dX6_table_63 : decode cX6_table 63 = .ok (.putfield 133, 3) := by decide +kernel
theorem dX6_table_66 : decode cX6_table 66 = .ok (.aload_n 0, 1) := by decide +kernel
theorem dX6_table_67 : decode cX6_table 67 = .ok (.getfield 19, 3) := by decide +kernel
theorem dX6_table_70 : decode cX6_table 70 = .ok (.iconst 1, 1) := by decide +kernel
theorem dX6_table_71 : decode cX6_table 71 = .ok (.iaload, 1) := by decide +kernel
theorem dX6_table_72 : decode cX6_table 72 = .ok (.ireturn, 1) := by decide +kernel
theorem dX6_fault_0 : decode cX6_fault 0 = .ok (.aload_n 0, 1) := by decide +kernel
theorem dX6_fault_1 : decode cX6_fault 1 = .ok (.getfield 125, 3) := by decide +kernel
theorem dX6_fault_4 : decode cX6_fault 4 = .ok (.ireturn, 1) := by decide +kernel
theorem dX6_all_0 : decode cX6_all 0 = .ok (.iconst 1, 1) := by decide +kernel
theorem dX6_all_1 : decode cX6_all 1 = .ok (.aload_n 0, 1) := by decide +kernel
theorem dX6_all_2 : decode cX6_all 2 = .ok (.getfield 19, 3) := by decide +kernel
theorem dX6_all_5 : decode cX6_all 5 = .ok (.iconst 0, 1) := by decide +kernel
theorem dX6_all_6 : decode cX6_all 6 = .ok (.iaload, 1) := by decide +kernel
theorem dX6_all_7 : decode cX6_all 7 = .ok (.ishl, 1) := by decide +kernel
theorem dX6_all_8 : decode cX6_all 8 = .ok (.iconst 1, 1) := by decide +kernel
theorem dX6_all_9 : decode cX6_all 9 = .ok (.isub, 1) := by decide +kernel
theorem dX6_all_10 : decode cX6_all 10 = .ok (.ireturn, 1) := by decide +kernel
set_option maxRecDepth 20000 in
theorem ggX6_here_X6_all : GoodIn wsX6_here wsX6_all := goodIn_r _ [6, 1, 7, 8, 9, 10, 11, 12, 13, 14, 15, 16, 17, 18, 19, 20, 21, 22, 23, 24, 25, 26, 27, 28] (by decide +kernel) (by decide +kernel)
set_option maxRecDepth 20000 in
theorem gX6_here_X6_all : GoodIn wsX6_here (wsV RX6 136 RX6 yX6_all wsX6_all) := goodIn_app (goodIn_of _ (by decide +kernel)) ggX6_here_X6_all
theorem dX6_here_0 : decode cX6_here 0 = .ok (.aload_n 0, 1) := by decide +kernel
theorem dX6_here_1 : decode cX6_here 1 = .ok (.invokevirtual 136, 3) := by decide +kernel
theorem dX6_here_4 : decode cX6_here 4 = .ok (.aload_n 0, 1) := by decide +kernel
theorem dX6_here_5 : decode cX6_here 5 = .ok (.getfield 19, 3) := by decide +kernel
theorem dX6_here_8 : decode cX6_here 8 = .ok (.iconst 4, 1) := by decide +kernel
theorem dX6_here_9 : decode cX6_here 9 = .ok (.iaload, 1) := by decide +kernel
theorem dX6_here_10 : decode cX6_here 10 = .ok (.iconst (-1), 1) := by decide +kernel
theorem dX6_here_11 : decode cX6_here 11 = .ok (.ixor, 1) := by decide +kernel
theorem dX6_here_12 : decode cX6_here 12 = .ok (.iand, 1) := by decide +kernel
theorem dX6_here_13 : decode cX6_here 13 = .ok (.ireturn, 1) := by decide +kernel
set_option maxRecDepth 20000 in
theorem ggX6_isPerson_X6_in : GoodIn wsX6_isPerson wsX6_in := goodIn_r _ [5] (by decide +kernel) (by decide +kernel)
set_option maxRecDepth 20000 in
theorem gX6_isPerson_X6_in : GoodIn wsX6_isPerson (va_wsS RX6 51 yX6_in wsX6_in) := goodIn_app (goodIn_of _ (by decide +kernel)) ggX6_isPerson_X6_in
theorem dX6_isPerson_0 : decode cX6_isPerson 0 = .ok (.iload_n 1, 1) := by decide +kernel
theorem dX6_isPerson_1 : decode cX6_isPerson 1 = .ok (.i2l, 1) := by decide +kernel
theorem dX6_isPerson_2 : decode cX6_isPerson 2 = .ok (.lconst 0, 1) := by decide +kernel
theorem dX6_isPerson_3 : decode cX6_isPerson 3 = .ok (.aload_n 0, 1) := by decide +kernel
theorem dX6_isPerson_4 : decode cX6_isPerson 4 = .ok (.getfield 19, 3) := by decide +kernel
theorem dX6_isPerson_7 : decode cX6_isPerson 7 = .ok (.iconst 0, 1) := by decide +kernel
theorem dX6_isPerson_8 : decode cX6_isPerson 8 = .ok (.iaload, 1) := by decide +kernel
theorem dX6_isPerson_9 : decode cX6_isPerson 9 = .ok (.iconst 1, 1) := by decide +kernel
theorem dX6_isPerson_10 : decode cX6_isPerson 10 = .ok (.isub, 1) := by decide +kernel
theorem dX6_isPerson_11 : decode cX6_isPerson 11 = .ok (.i2l, 1) := by decide +kernel
theorem dX6_isPerson_12 : decode cX6_isPerson 12 = .ok (.invokestatic 51, 3) := by decide +kernel
theorem dX6_isPerson_15 : decode cX6_isPerson 15 = .ok (.ireturn, 1) := by decide +kernel
set_option maxRecDepth 20000 in
theorem ggX6_isSet_X6_all : GoodIn wsX6_isSet wsX6_all := goodIn_r _ [5, 6, 10, 11, 12, 13, 14, 15, 16, 17, 18, 19, 20, 21, 22, 23, 24, 25, 26, 27, 28, 29, 30, 31] (by decide +kernel) (by decide +kernel)
set_option maxRecDepth 20000 in
theorem gX6_isSet_X6_all : GoodIn wsX6_isSet (wsV RX6 136 RX6 yX6_all wsX6_all) := goodIn_app (goodIn_of _ (by decide +kernel)) ggX6_isSet_X6_all
set_option maxRecDepth 20000 in
theorem ggX6_isSet_X6_in : GoodIn wsX6_isSet wsX6_in := goodIn_r _ [9] (by decide +kernel) (by decide +kernel)
set_option maxRecDepth 20000 in
theorem gX6_isSet_X6_in : GoodIn wsX6_isSet (va_wsS RX6 51 yX6_in wsX6_in) := goodIn_app (goodIn_of _ (by decide +kernel)) ggX6_isSet_X6_in
theorem dX6_isSet_0 : decode cX6_isSet 0 = .ok (.iload_n 1, 1) := by decide +kernel
theorem dX6_isSet_1 : decode cX6_isSet 1 = .ok (.i2l, 1) := by decide +kernel
theorem dX6_isSet_2 : decode cX6_isSet 2 = .ok (.lconst 0, 1) := by decide +kernel
theorem dX6_isSet_3 : decode cX6_isSet 3 = .ok (.aload_n 0, 1) := by decide +kernel
theorem dX6_isSet_4 : decode cX6_isSet 4 = .ok (.invokevirtual 136, 3) := by decide +kernel
theorem dX6_isSet_7 : decode cX6_isSet 7 = .ok (.i2l, 1) := by decide +kernel
theorem dX6_isSet_8 : decode cX6_isSet 8 = .ok (.invokestatic 51, 3) := by decide +kernel
theorem dX6_isSet_11 : decode cX6_isSet 11 = .ok (.ireturn, 1) := by decide +kernel
set_option maxRecDepth 20000 in
theorem ggX6_isTie_X6_in : GoodIn wsX6_isTie wsX6_in := goodIn_r _ [5] (by decide +kernel) (by decide +kernel)
set_option maxRecDepth 20000 in
theorem gX6_isTie_X6_in : GoodIn wsX6_isTie (va_wsS RX6 51 yX6_in wsX6_in) := goodIn_app (goodIn_of _ (by decide +kernel)) ggX6_isTie_X6_in
theorem dX6_isTie_0 : decode cX6_isTie 0 = .ok (.iload_n 1, 1) := by decide +kernel
theorem dX6_isTie_1 : decode cX6_isTie 1 = .ok (.i2l, 1) := by decide +kernel
theorem dX6_isTie_2 : decode cX6_isTie 2 = .ok (.lconst 0, 1) := by decide +kernel
theorem dX6_isTie_3 : decode cX6_isTie 3 = .ok (.aload_n 0, 1) := by decide +kernel
theorem dX6_isTie_4 : decode cX6_isTie 4 = .ok (.getfield 19, 3) := by decide +kernel
theorem dX6_isTie_7 : decode cX6_isTie 7 = .ok (.iconst 1, 1) := by decide +kernel
theorem dX6_isTie_8 : decode cX6_isTie 8 = .ok (.iaload, 1) := by decide +kernel
theorem dX6_isTie_9 : decode cX6_isTie 9 = .ok (.iconst 1, 1) := by decide +kernel
theorem dX6_isTie_10 : decode cX6_isTie 10 = .ok (.isub, 1) := by decide +kernel
theorem dX6_isTie_11 : decode cX6_isTie 11 = .ok (.i2l, 1) := by decide +kernel
theorem dX6_isTie_12 : decode cX6_isTie 12 = .ok (.invokestatic 51, 3) := by decide +kernel
theorem dX6_isTie_15 : decode cX6_isTie 15 = .ok (.ireturn, 1) := by decide +kernel
set_option maxRecDepth 20000 in
theorem ggX6_countsBy_X6_ones : GoodIn wsX6_countsBy wsX6_ones := goodIn_r _ [5] (by decide +kernel) (by decide +kernel)
set_option maxRecDepth 20000 in
theorem gX6_countsBy_X6_ones : GoodIn wsX6_countsBy (va_wsS RX6 140 yX6_ones wsX6_ones) := goodIn_app (goodIn_of _ (by decide +kernel)) ggX6_countsBy_X6_ones
theorem dX6_countsBy_0 : decode cX6_countsBy 0 = .ok (.aload_n 0, 1) := by decide +kernel
theorem dX6_countsBy_1 : decode cX6_countsBy 1 = .ok (.getfield 19, 3) := by decide +kernel
theorem dX6_countsBy_4 : decode cX6_countsBy 4 = .ok (.bipush 13, 2) := by decide +kernel
theorem dX6_countsBy_6 : decode cX6_countsBy 6 = .ok (.iload_n 2, 1) := by decide +kernel
theorem dX6_countsBy_7 : decode cX6_countsBy 7 = .ok (.iadd, 1) := by decide +kernel
theorem dX6_countsBy_8 : decode cX6_countsBy 8 = .ok (.iaload, 1) := by decide +kernel
theorem dX6_countsBy_9 : decode cX6_countsBy 9 = .ok (.istore 4, 2) := by decide +kernel
theorem dX6_countsBy_11 : decode cX6_countsBy 11 = .ok (.aload_n 0, 1) := by decide +kernel
theorem dX6_countsBy_12 : decode cX6_countsBy 12 = .ok (.getfield 19, 3) := by decide +kernel
theorem dX6_countsBy_15 : decode cX6_countsBy 15 = .ok (.bipush 21, 2) := by decide +kernel
theorem dX6_countsBy_17 : decode cX6_countsBy 17 = .ok (.iload_n 2, 1) := by decide +kernel
theorem dX6_countsBy_18 : decode cX6_countsBy 18 = .ok (.iadd, 1) := by decide +kernel
theorem dX6_countsBy_19 : decode cX6_countsBy 19 = .ok (.iaload, 1) := by decide +kernel
theorem dX6_countsBy_20 : decode cX6_countsBy 20 = .ok (.istore 5, 2) := by decide +kernel
theorem dX6_countsBy_22 : decode cX6_countsBy 22 = .ok (.iload 4, 2) := by decide +kernel
theorem dX6_countsBy_24 : decode cX6_countsBy 24 = .ok (.iload_n 3, 1) := by decide +kernel
theorem dX6_countsBy_25 : decode cX6_countsBy 25 = .ok (.iand, 1) := by decide +kernel
theorem dX6_countsBy_26 : decode cX6_countsBy 26 = .ok (.invokestatic 140, 3) := by decide +kernel
theorem dX6_countsBy_29 : decode cX6_countsBy 29 = .ok (.istore 6, 2) := by decide +kernel
theorem dX6_countsBy_31 : decode cX6_countsBy 31 = .ok (.iload_n 1, 1) := by decide +kernel
theorem dX6_countsBy_32 : decode cX6_countsBy 32 = .ok (.iconst 3, 1) := by decide +kernel
theorem dX6_countsBy_33 : decode cX6_countsBy 33 = .ok (.if_icmp .ne 21, 3) := by decide +kernel
theorem dX6_countsBy_36 : decode cX6_countsBy 36 = .ok (.iload 6, 2) := by decide +kernel
theorem dX6_countsBy_38 : decode cX6_countsBy 38 = .ok (.iconst 1, 1) := by decide +kernel
theorem dX6_countsBy_39 : decode cX6_countsBy 39 = .ok (.if_icmp .le 13, 3) := by decide +kernel
theorem dX6_countsBy_42 : decode cX6_countsBy 42 = .ok (.iload 6, 2) := by decide +kernel
theorem dX6_countsBy_44 : decode cX6_countsBy 44 = .ok (.iconst 1, 1) := by decide +kernel
theorem dX6_countsBy_45 : decode cX6_countsBy 45 = .ok (.isub, 1) := by decide +kernel
theorem dX6_countsBy_46 : decode cX6_countsBy 46 = .ok (.iload 5, 2) := by decide +kernel
theorem dX6_countsBy_48 : decode cX6_countsBy 48 = .ok (.imul, 1) := by decide +kernel
theorem dX6_countsBy_49 : decode cX6_countsBy 49 = .ok (.goto 4, 3) := by decide +kernel
theorem dX6_countsBy_52 : decode cX6_countsBy 52 = .ok (.iconst 0, 1) := by decide +kernel
theorem dX6_countsBy_53 : decode cX6_countsBy 53 = .ok (.ireturn, 1) := by decide +kernel
theorem dX6_countsBy_54 : decode cX6_countsBy 54 = .ok (.iload_n 1, 1) := by decide +kernel
theorem dX6_countsBy_55 : decode cX6_countsBy 55 = .ok (.iconst 4, 1) := by decide +kernel
theorem dX6_countsBy_56 : decode cX6_countsBy 56 = .ok (.if_icmp .eq 8, 3) := by decide +kernel
theorem dX6_countsBy_59 : decode cX6_countsBy 59 = .ok (.iload_n 1, 1) := by decide +kernel
theorem dX6_countsBy_60 : decode cX6_countsBy 60 = .ok (.iconst 5, 1) := by decide +kernel
theorem dX6_countsBy_61 : decode cX6_countsBy 61 = .ok (.if_icmp .ne 33, 3) := by decide +kernel
theorem dX6_countsBy_64 : decode cX6_countsBy 64 = .ok (.iload 6, 2) := by decide +kernel
theorem dX6_countsBy_66 : decode cX6_countsBy 66 = .ok (.ifCond .le 7, 3) := by decide +kernel
theorem dX6_countsBy_69 : decode cX6_countsBy 69 = .ok (.iconst 1, 1) := by decide +kernel
theorem dX6_countsBy_70 : decode cX6_countsBy 70 = .ok (.goto 4, 3) := by decide +kernel
theorem dX6_countsBy_73 : decode cX6_countsBy 73 = .ok (.iconst 0, 1) := by decide +kernel
theorem dX6_countsBy_74 : decode cX6_countsBy 74 = .ok (.iload_n 1, 1) := by decide +kernel
theorem dX6_countsBy_75 : decode cX6_countsBy 75 = .ok (.iconst 4, 1) := by decide +kernel
theorem dX6_countsBy_76 : decode cX6_countsBy 76 = .ok (.if_icmp .ne 7, 3) := by decide +kernel
theorem dX6_countsBy_79 : decode cX6_countsBy 79 = .ok (.iconst 1, 1) := by decide +kernel
theorem dX6_countsBy_80 : decode cX6_countsBy 80 = .ok (.goto 4, 3) := by decide +kernel
theorem dX6_countsBy_83 : decode cX6_countsBy 83 = .ok (.iconst 0, 1) := by decide +kernel
theorem dX6_countsBy_84 : decode cX6_countsBy 84 = .ok (.if_icmp .ne 8, 3) := by decide +kernel
theorem dX6_countsBy_87 : decode cX6_countsBy 87 = .ok (.iload 5, 2) := by decide +kernel
theorem dX6_countsBy_89 : decode cX6_countsBy 89 = .ok (.goto 4, 3) := by decide +kernel
theorem dX6_countsBy_92 : decode cX6_countsBy 92 = .ok (.iconst 0, 1) := by decide +kernel
theorem dX6_countsBy_93 : decode cX6_countsBy 93 = .ok (.ireturn, 1) := by decide +kernel
theorem dX6_countsBy_94 : decode cX6_countsBy 94 = .ok (.iload 4, 2) := by decide +kernel
theorem dX6_countsBy_96 : decode cX6_countsBy 96 = .ok (.iload_n 3, 1) := by decide +kernel
theorem dX6_countsBy_97 : decode cX6_countsBy 97 = .ok (.iconst (-1), 1) := by decide +kernel
theorem dX6_countsBy_98 : decode cX6_countsBy 98 = .ok (.ixor, 1) := by decide +kernel
theorem dX6_countsBy_99 : decode cX6_countsBy 99 = .ok (.iand, 1) := by decide +kernel
theorem dX6_countsBy_100 : decode cX6_countsBy 100 = .ok (.ifCond .ne 7, 3) := by decide +kernel
theorem dX6_countsBy_103 : decode cX6_countsBy 103 = .ok (.iconst 1, 1) := by decide +kernel
theorem dX6_countsBy_104 : decode cX6_countsBy 104 = .ok (.goto 4, 3) := by decide +kernel
theorem dX6_countsBy_107 : decode cX6_countsBy 107 = .ok (.iconst 0, 1) := by decide +kernel
theorem dX6_countsBy_108 : decode cX6_countsBy 108 = .ok (.istore 7, 2) := by decide +kernel
theorem dX6_countsBy_110 : decode cX6_countsBy 110 = .ok (.iload 7, 2) := by decide +kernel
theorem dX6_countsBy_112 : decode cX6_countsBy 112 = .ok (.ifCond .ne 7, 3) := by decide +kernel
theorem dX6_countsBy_115 : decode cX6_countsBy 115 = .ok (.iconst 0, 1) := by decide +kernel
theorem dX6_countsBy_116 : decode cX6_countsBy 116 = .ok (.goto 16, 3) := by decide +kernel
theorem dX6_countsBy_119 : decode cX6_countsBy 119 = .ok (.iload_n 1, 1) := by decide +kernel
theorem dX6_countsBy_120 : decode cX6_countsBy 120 = .ok (.iconst 1, 1) := by decide +kernel
theorem dX6_countsBy_121 : decode cX6_countsBy 121 = .ok (.if_icmp .ne 8, 3) := by decide +kernel
theorem dX6_countsBy_124 : decode cX6_countsBy 124 = .ok (.iload 5, 2) := by decide +kernel
theorem dX6_countsBy_126 : decode cX6_countsBy 126 = .ok (.goto 6, 3) := by decide +kernel
theorem dX6_countsBy_129 : decode cX6_countsBy 129 = .ok (.iload 5, 2) := by decide +kernel
theorem dX6_countsBy_131 : decode cX6_countsBy 131 = .ok (.ineg, 1) := by decide +kernel
theorem dX6_countsBy_132 : decode cX6_countsBy 132 = .ok (.ireturn, 1) := by decide +kernel
set_option maxRecDepth 20000 in
theorem ggX6_worthOf_X6_countsBy : GoodIn wsX6_worthOf wsX6_countsBy := goodIn_r _ [6, 1, 7, 8, 5, 9, 10, 11, 12, 13, 14, 15, 16, 17, 18, 19, 20, 21, 22, 23, 24, 25, 26, 27, 28, 29, 30, 31] (by decide +kernel) (by decide +kernel)
set_option maxRecDepth 20000 in
theorem gX6_worthOf_X6_countsBy : GoodIn wsX6_worthOf (wsV RX6 143 RX6 yX6_countsBy wsX6_countsBy) := goodIn_app (goodIn_of _ (by decide +kernel)) ggX6_worthOf_X6_countsBy
theorem dX6_worthOf_0 : decode cX6_worthOf 0 = .ok (.iconst 0, 1) := by decide +kernel
theorem dX6_worthOf_1 : decode cX6_worthOf 1 = .ok (.istore_n 2, 1) := by decide +kernel
theorem dX6_worthOf_2 : decode cX6_worthOf 2 = .ok (.iconst 0, 1) := by decide +kernel
theorem dX6_worthOf_3 : decode cX6_worthOf 3 = .ok (.istore_n 3, 1) := by decide +kernel
theorem dX6_worthOf_4 : decode cX6_worthOf 4 = .ok (.iload_n 3, 1) := by decide +kernel
theorem dX6_worthOf_5 : decode cX6_worthOf 5 = .ok (.aload_n 0, 1) := by decide +kernel
theorem dX6_worthOf_6 : decode cX6_worthOf 6 = .ok (.getfield 19, 3) := by decide +kernel
theorem dX6_worthOf_9 : decode cX6_worthOf 9 = .ok (.iconst 1, 1) := by decide +kernel
theorem dX6_worthOf_10 : decode cX6_worthOf 10 = .ok (.iaload, 1) := by decide +kernel
theorem dX6_worthOf_11 : decode cX6_worthOf 11 = .ok (.if_icmp .ge 26, 3) := by decide +kernel
theorem dX6_worthOf_14 : decode cX6_worthOf 14 = .ok (.iload_n 2, 1) := by decide +kernel
theorem dX6_worthOf_15 : decode cX6_worthOf 15 = .ok (.aload_n 0, 1) := by decide +kernel
theorem dX6_worthOf_16 : decode cX6_worthOf 16 = .ok (.aload_n 0, 1) := by decide +kernel
theorem dX6_worthOf_17 : decode cX6_worthOf 17 = .ok (.getfield 19, 3) := by decide +kernel
theorem dX6_worthOf_20 : decode cX6_worthOf 20 = .ok (.iconst 5, 1) := by decide +kernel
theorem dX6_worthOf_21 : decode cX6_worthOf 21 = .ok (.iload_n 3, 1) := by decide +kernel
theorem dX6_worthOf_22 : decode cX6_worthOf 22 = .ok (.iadd, 1) := by decide +kernel
theorem dX6_worthOf_23 : decode cX6_worthOf 23 = .ok (.iaload, 1) := by decide +kernel
theorem dX6_worthOf_24 : decode cX6_worthOf 24 = .ok (.iload_n 3, 1) := by decide +kernel
theorem dX6_worthOf_25 : decode cX6_worthOf 25 = .ok (.iload_n 1, 1) := by decide +kernel
theorem dX6_worthOf_26 : decode cX6_worthOf 26 = .ok (.invokevirtual 143, 3) := by decide +kernel
theorem dX6_worthOf_29 : decode cX6_worthOf 29 = .ok (.iadd, 1) := by decide +kernel
theorem dX6_worthOf_30 : decode cX6_worthOf 30 = .ok (.istore_n 2, 1) := by decide +kernel
theorem dX6_worthOf_31 : decode cX6_worthOf 31 = .ok (.iinc 3 1, 3) := by decide +kernel
theorem dX6_worthOf_34 : decode cX6_worthOf 34 = .ok (.goto (-30), 3) := by decide +kernel
theorem dX6_worthOf_37 : decode cX6_worthOf 37 = .ok (.iload_n 2, 1) := by decide +kernel
theorem dX6_worthOf_38 : decode cX6_worthOf 38 = .ok (.ireturn, 1) := by decide +kernel
theorem dX6_note_0 : decode cX6_note 0 = .ok (.aload_n 0, 1) := by decide +kernel
theorem dX6_note_1 : decode cX6_note 1 = .ok (.getfield 133, 3) := by decide +kernel
theorem dX6_note_4 : decode cX6_note 4 = .ok (.bipush 24, 2) := by decide +kernel
theorem dX6_note_6 : decode cX6_note 6 = .ok (.if_icmp .ne 43, 3) := by decide +kernel
theorem dX6_note_9 : decode cX6_note 9 = .ok (.iconst 0, 1) := by decide +kernel
theorem dX6_note_10 : decode cX6_note 10 = .ok (.istore_n 1, 1) := by decide +kernel
theorem dX6_note_11 : decode cX6_note 11 = .ok (.iload_n 1, 1) := by decide +kernel
theorem dX6_note_12 : decode cX6_note 12 = .ok (.sipush 667, 3) := by decide +kernel
theorem dX6_note_15 : decode cX6_note 15 = .ok (.if_icmp .ge 24, 3) := by decide +kernel
theorem dX6_note_18 : decode cX6_note 18 = .ok (.aload_n 0, 1) := by decide +kernel
theorem dX6_note_19 : decode cX6_note 19 = .ok (.getfield 31, 3) := by decide +kernel
theorem dX6_note_22 : decode cX6_note 22 = .ok (.iload_n 1, 1) := by decide +kernel
theorem dX6_note_23 : decode cX6_note 23 = .ok (.aload_n 0, 1) := by decide +kernel
theorem dX6_note_24 : decode cX6_note 24 = .ok (.getfield 31, 3) := by decide +kernel
theorem dX6_note_27 : decode cX6_note 27 = .ok (.iload_n 1, 1) := by decide +kernel
theorem dX6_note_28 : decode cX6_note 28 = .ok (.bipush 29, 2) := by decide +kernel
theorem dX6_note_30 : decode cX6_note 30 = .ok (.iadd, 1) := by decide +kernel
theorem dX6_note_31 : decode cX6_note 31 = .ok (.iaload, 1) := by decide +kernel
theorem dX6_note_32 : decode cX6_note 32 = .ok (.iastore, 1) := by decide +kernel
theorem dX6_note_33 : decode cX6_note 33 = .ok (.iinc 1 1, 3) := by decide +kernel
theorem dX6_note_36 : decode cX6_note 36 = .ok (.goto (-25), 3) := by decide +kernel
theorem dX6_note_39 : decode cX6_note 39 = .ok (.aload_n 0, 1) := by decide +kernel
theorem dX6_note_40 : decode cX6_note 40 = .ok (.dup, 1) := by decide +kernel
theorem dX6_note_41 : decode cX6_note 41 = .ok (.getfield 133, 3) := by decide +kernel
theorem dX6_note_44 : decode cX6_note 44 = .ok (.iconst 1, 1) := by decide +kernel
theorem dX6_note_45 : decode cX6_note 45 = .ok (.isub, 1) := by decide +kernel
theorem dX6_note_46 : decode cX6_note 46 = .ok (.putfield 133, 3) := by decide +kernel
theorem dX6_note_49 : decode cX6_note 49 = .ok (.iconst 0, 1) := by decide +kernel
theorem dX6_note_50 : decode cX6_note 50 = .ok (.istore_n 1, 1) := by decide +kernel
theorem dX6_note_51 : decode cX6_note 51 = .ok (.iload_n 1, 1) := by decide +kernel
theorem dX6_note_52 : decode cX6_note 52 = .ok (.bipush 29, 2) := by decide +kernel
theorem dX6_note_54 : decode cX6_note 54 = .ok (.if_icmp .ge 29, 3) := by decide +kernel
theorem dX6_note_57 : decode cX6_note 57 = .ok (.aload_n 0, 1) := by decide +kernel
theorem dX6_note_58 : decode cX6_note 58 = .ok (.getfield 31, 3) := by decide +kernel
theorem dX6_note_61 : decode cX6_note 61 = .ok (.bipush 29, 2) := by decide +kernel
theorem dX6_note_63 : decode cX6_note 63 = .ok (.aload_n 0, 1) := by decide +kernel
theorem dX6_note_64 : decode cX6_note 64 = .ok (.getfield 133, 3) := by decide +kernel
theorem dX6_note_67 : decode cX6_note 67 = .ok (.imul, 1) := by decide +kernel
theorem dX6_note_68 : decode cX6_note 68 = .ok (.iload_n 1, 1) := by decide +kernel
theorem dX6_note_69 : decode cX6_note 69 = .ok (.iadd, 1) := by decide +kernel
theorem dX6_note_70 : decode cX6_note 70 = .ok (.aload_n 0, 1) := by decide +kernel
theorem dX6_note_71 : decode cX6_note 71 = .ok (.getfield 19, 3) := by decide +kernel
theorem dX6_note_74 : decode cX6_note 74 = .ok (.iload_n 1, 1) := by decide +kernel
theorem dX6_note_75 : decode cX6_note 75 = .ok (.iaload, 1) := by decide +kernel
theorem dX6_note_76 : decode cX6_note 76 = .ok (.iastore, 1) := by decide +kernel
theorem dX6_note_77 : decode cX6_note 77 = .ok (.iinc 1 1, 3) := by decide +kernel
theorem dX6_note_80 : decode cX6_note 80 = .ok (.goto (-29), 3) := by decide +kernel
theorem dX6_note_83 : decode cX6_note 83 = .ok (.aload_n 0, 1) := by decide +kernel
theorem dX6_note_84 : decode cX6_note 84 = .ok (.dup, 1) := by decide +kernel
theorem dX6_note_85 : decode cX6_note 85 = .ok (.getfield 133, 3) := by decide +kernel
theorem dX6_note_88 : decode cX6_note 88 = .ok (.iconst 1, 1) := by decide +kernel
theorem dX6_note_89 : decode cX6_note 89 = .ok (.iadd, 1) := by decide +kernel
theorem dX6_note_90 : decode cX6_note 90 = .ok (.putfield 133, 3) := by decide +kernel
theorem dX6_note_93 : decode cX6_note 93 = .ok (.return_, 1) := by decide +kernel
set_option maxRecDepth 20000 in
theorem ggX6_away_X6_isPerson : GoodIn wsX6_away wsX6_isPerson := goodIn_r _ [8, 2, 9, 10, 7, 11, 18, 19, 20, 21, 22, 23, 24, 25, 26, 27, 28, 29, 30, 31, 32, 33, 34, 35, 36, 37, 38, 39] (by decide +kernel) (by decide +kernel)
set_option maxRecDepth 20000 in
theorem gX6_away_X6_isPerson : GoodIn wsX6_away (wsV RX6 147 RX6 yX6_isPerson wsX6_isPerson) := goodIn_app (goodIn_of _ (by decide +kernel)) ggX6_away_X6_isPerson
set_option maxRecDepth 20000 in
theorem ggX6_away_X6_in : GoodIn wsX6_away wsX6_in := goodIn_r _ [11] (by decide +kernel) (by decide +kernel)
set_option maxRecDepth 20000 in
theorem gX6_away_X6_in : GoodIn wsX6_away (va_wsS RX6 51 yX6_in wsX6_in) := goodIn_app (goodIn_of _ (by decide +kernel)) ggX6_away_X6_in
set_option maxRecDepth 20000 in
theorem ggX6_away_X6_note : GoodIn wsX6_away wsX6_note := goodIn_r _ [15, 16, 17, 2, 18, 19, 20, 21, 22, 23, 24, 25, 26, 27, 28, 29, 30, 31, 32, 33, 34, 35, 36, 37, 38, 39] (by decide +kernel) (by decide +kernel)
set_option maxRecDepth 20000 in
theorem gX6_away_X6_note : GoodIn wsX6_away (wsV RX6 151 RX6 yX6_note wsX6_note) := goodIn_app (goodIn_of _ (by decide +kernel)) ggX6_away_X6_note
theorem dX6_away_0 : decode cX6_away 0 = .ok (.aload_n 0, 1) := by decide +kernel
theorem dX6_away_1 : decode cX6_away 1 = .ok (.iload_n 1, 1) := by decide +kernel
theorem dX6_away_2 : decode cX6_away 2 = .ok (.invokevirtual 147, 3) := by decide +kernel
theorem dX6_away_5 : decode cX6_away 5 = .ok (.ifCond .eq 13, 3) := by decide +kernel
theorem dX6_away_8 : decode cX6_away 8 = .ok (.iload_n 2, 1) := by decide +kernel
theorem dX6_away_9 : decode cX6_away 9 = .ok (.i2l, 1) := by decide +kernel
theorem dX6_away_10 : decode cX6_away 10 = .ok (.lconst 0, 1) := by decide +kernel
theorem dX6_away_11 : decode cX6_away 11 = .ok (.lconst 1, 1) := by decide +kernel
theorem dX6_away_12 : decode cX6_away 12 = .ok (.invokestatic 51, 3) := by decide +kernel
theorem dX6_away_15 : decode cX6_away 15 = .ok (.ifCond .ne 6, 3) := by decide +kernel
theorem dX6_away_18 : decode cX6_away 18 = .ok (.ldc 61, 2) := by decide +kernel
theorem dX6_away_20 : decode cX6_away 20 = .ok (.ireturn, 1) := by decide +kernel
theorem dX6_away_21 : decode cX6_away 21 = .ok (.aload_n 0, 1) := by decide +kernel
theorem dX6_away_22 : decode cX6_away 22 = .ok (.getfield 19, 3) := by decide +kernel
theorem dX6_away_25 : decode cX6_away 25 = .ok (.iconst 4, 1) := by decide +kernel
theorem dX6_away_26 : decode cX6_away 26 = .ok (.iaload, 1) := by decide +kernel
theorem dX6_away_27 : decode cX6_away 27 = .ok (.iload_n 1, 1) := by decide +kernel
theorem dX6_away_28 : decode cX6_away 28 = .ok (.ishr, 1) := by decide +kernel
theorem dX6_away_29 : decode cX6_away 29 = .ok (.iconst 1, 1) := by decide +kernel
theorem dX6_away_30 : decode cX6_away 30 = .ok (.iand, 1) := by decide +kernel
theorem dX6_away_31 : decode cX6_away 31 = .ok (.iload_n 2, 1) := by decide +kernel
theorem dX6_away_32 : decode cX6_away 32 = .ok (.if_icmp .ne 6, 3) := by decide +kernel
theorem dX6_away_35 : decode cX6_away 35 = .ok (.ldc 150, 2) := by decide +kernel
theorem dX6_away_37 : decode cX6_away 37 = .ok (.ireturn, 1) := by decide +kernel
theorem dX6_away_38 : decode cX6_away 38 = .ok (.aload_n 0, 1) := by decide +kernel
theorem dX6_away_39 : decode cX6_away 39 = .ok (.invokevirtual 151, 3) := by decide +kernel
theorem dX6_away_42 : decode cX6_away 42 = .ok (.aload_n 0, 1) := by decide +kernel
theorem dX6_away_43 : decode cX6_away 43 = .ok (.getfield 19, 3) := by decide +kernel
theorem dX6_away_46 : decode cX6_away 46 = .ok (.iconst 4, 1) := by decide +kernel
theorem dX6_away_47 : decode cX6_away 47 = .ok (.dup2, 1) := by decide +kernel
theorem dX6_away_48 : decode cX6_away 48 = .ok (.iaload, 1) := by decide +kernel
theorem dX6_away_49 : decode cX6_away 49 = .ok (.iconst 1, 1) := by decide +kernel
theorem dX6_away_50 : decode cX6_away 50 = .ok (.iload_n 1, 1) := by decide +kernel
theorem dX6_away_51 : decode cX6_away 51 = .ok (.ishl, 1) := by decide +kernel
theorem dX6_away_52 : decode cX6_away 52 = .ok (.ixor, 1) := by decide +kernel
theorem dX6_away_53 : decode cX6_away 53 = .ok (.iastore, 1) := by decide +kernel
theorem dX6_away_54 : decode cX6_away 54 = .ok (.aload_n 0, 1) := by decide +kernel
theorem dX6_away_55 : decode cX6_away 55 = .ok (.getfield 19, 3) := by decide +kernel
theorem dX6_away_58 : decode cX6_away 58 = .ok (.iconst 4, 1) := by decide +kernel
theorem dX6_away_59 : decode cX6_away 59 = .ok (.iaload, 1) := by decide +kernel
theorem dX6_away_60 : decode cX6_away 60 = .ok (.ireturn, 1) := by decide +kernel
set_option maxRecDepth 20000 in
theorem ggX6_tie_X6_in : GoodIn wsX6_tie wsX6_in := goodIn_r _ [11] (by decide +kernel) (by decide +kernel)
set_option maxRecDepth 20000 in
theorem gX6_tie_X6_in : GoodIn wsX6_tie (va_wsS RX6 51 yX6_in wsX6_in) := goodIn_app (goodIn_of _ (by decide +kernel)) ggX6_tie_X6_in
set_option maxRecDepth 20000 in
theorem ggX6_tie_X6_all : GoodIn wsX6_tie wsX6_all := goodIn_r _ [15, 6, 22, 23, 24, 25, 26, 27, 28, 29, 30, 31, 32, 33, 34, 35, 36, 37, 38, 39, 40, 41, 42, 43] (by decide +kernel) (by decide +kernel)
set_option maxRecDepth 20000 in
theorem gX6_tie_X6_all : GoodIn wsX6_tie (wsV RX6 136 RX6 yX6_all wsX6_all) := goodIn_app (goodIn_of _ (by decide +kernel)) ggX6_tie_X6_all
set_option maxRecDepth 20000 in
theorem ggX6_tie_X6_note : GoodIn wsX6_tie wsX6_note := goodIn_r _ [19, 20, 21, 6, 22, 23, 24, 25, 26, 27, 28, 29, 30, 31, 32, 33, 34, 35, 36, 37, 38, 39, 40, 41, 42, 43] (by decide +kernel) (by decide +kernel)
set_option maxRecDepth 20000 in
theorem gX6_tie_X6_note : GoodIn wsX6_tie (wsV RX6 151 RX6 yX6_note wsX6_note) := goodIn_app (goodIn_of _ (by decide +kernel)) ggX6_tie_X6_note
theorem dX6_tie_0 : decode cX6_tie 0 = .ok (.aload_n 0, 1) := by decide +kernel
theorem dX6_tie_1 : decode cX6_tie 1 = .ok (.getfield 129, 3) := by decide +kernel
theorem dX6_tie_4 : decode cX6_tie 4 = .ok (.ifCond .ne 6, 3) := by decide +kernel
theorem dX6_tie_7 : decode cX6_tie 7 = .ok (.ldc 150, 2) := by decide +kernel
theorem dX6_tie_9 : decode cX6_tie 9 = .ok (.ireturn, 1) := by decide +kernel
theorem dX6_tie_10 : decode cX6_tie 10 = .ok (.iload_n 1, 1) := by decide +kernel
theorem dX6_tie_11 : decode cX6_tie 11 = .ok (.i2l, 1) := by decide +kernel
theorem dX6_tie_12 : decode cX6_tie 12 = .ok (.lconst 1, 1) := by decide +kernel
theorem dX6_tie_13 : decode cX6_tie 13 = .ok (.ldc2_w 154, 3) := by decide +kernel
theorem dX6_tie_16 : decode cX6_tie 16 = .ok (.invokestatic 51, 3) := by decide +kernel
theorem dX6_tie_19 : decode cX6_tie 19 = .ok (.ifCond .eq 29, 3) := by decide +kernel
theorem dX6_tie_22 : decode cX6_tie 22 = .ok (.iload_n 2, 1) := by decide +kernel
theorem dX6_tie_23 : decode cX6_tie 23 = .ok (.i2l, 1) := by decide +kernel
theorem dX6_tie_24 : decode cX6_tie 24 = .ok (.lconst 1, 1) := by decide +kernel
theorem dX6_tie_25 : decode cX6_tie 25 = .ok (.aload_n 0, 1) := by decide +kernel
theorem dX6_tie_26 : decode cX6_tie 26 = .ok (.invokevirtual 136, 3) := by decide +kernel
theorem dX6_tie_29 : decode cX6_tie 29 = .ok (.i2l, 1) := by decide +kernel
theorem dX6_tie_30 : decode cX6_tie 30 = .ok (.invokestatic 51, 3) := by decide +kernel
theorem dX6_tie_33 : decode cX6_tie 33 = .ok (.ifCond .eq 15, 3) := by decide +kernel
theorem dX6_tie_36 : decode cX6_tie 36 = .ok (.iload_n 3, 1) := by decide +kernel
theorem dX6_tie_37 : decode cX6_tie 37 = .ok (.i2l, 1) := by decide +kernel
theorem dX6_tie_38 : decode cX6_tie 38 = .ok (.lconst 0, 1) := by decide +kernel
theorem dX6_tie_39 : decode cX6_tie 39 = .ok (.ldc2_w 156, 3) := by decide +kernel
theorem dX6_tie_42 : decode cX6_tie 42 = .ok (.invokestatic 51, 3) := by decide +kernel
theorem dX6_tie_45 : decode cX6_tie 45 = .ok (.ifCond .ne 6, 3) := by decide +kernel
theorem dX6_tie_48 : decode cX6_tie 48 = .ok (.ldc 61, 2) := by decide +kernel
theorem dX6_tie_50 : decode cX6_tie 50 = .ok (.ireturn, 1) := by decide +kernel
theorem dX6_tie_51 : decode cX6_tie 51 = .ok (.aload_n 0, 1) := by decide +kernel
theorem dX6_tie_52 : decode cX6_tie 52 = .ok (.getfield 19, 3) := by decide +kernel
theorem dX6_tie_55 : decode cX6_tie 55 = .ok (.iconst 1, 1) := by decide +kernel
theorem dX6_tie_56 : decode cX6_tie 56 = .ok (.iaload, 1) := by decide +kernel
theorem dX6_tie_57 : decode cX6_tie 57 = .ok (.bipush 8, 2) := by decide +kernel
theorem dX6_tie_59 : decode cX6_tie 59 = .ok (.if_icmp .ne 6, 3) := by decide +kernel
theorem dX6_tie_62 : decode cX6_tie 62 = .ok (.ldc 78, 2) := by decide +kernel
theorem dX6_tie_64 : decode cX6_tie 64 = .ok (.ireturn, 1) := by decide +kernel
theorem dX6_tie_65 : decode cX6_tie 65 = .ok (.aload_n 0, 1) := by decide +kernel
theorem dX6_tie_66 : decode cX6_tie 66 = .ok (.invokevirtual 151, 3) := by decide +kernel
theorem dX6_tie_69 : decode cX6_tie 69 = .ok (.aload_n 0, 1) := by decide +kernel
theorem dX6_tie_70 : decode cX6_tie 70 = .ok (.getfield 19, 3) := by decide +kernel
theorem dX6_tie_73 : decode cX6_tie 73 = .ok (.iconst 1, 1) := by decide +kernel
theorem dX6_tie_74 : decode cX6_tie 74 = .ok (.iaload, 1) := by decide +kernel
theorem dX6_tie_75 : decode cX6_tie 75 = .ok (.istore 4, 2) := by decide +kernel
theorem dX6_tie_77 : decode cX6_tie 77 = .ok (.aload_n 0, 1) := by decide +kernel
theorem dX6_tie_78 : decode cX6_tie 78 = .ok (.getfield 19, 3) := by decide +kernel
theorem dX6_tie_81 : decode cX6_tie 81 = .ok (.iconst 5, 1) := by decide +kernel
theorem dX6_tie_82 : decode cX6_tie 82 = .ok (.iload 4, 2) := by decide +kernel
theorem dX6_tie_84 : decode cX6_tie 84 = .ok (.iadd, 1) := by decide +kernel
theorem dX6_tie_85 : decode cX6_tie 85 = .ok (.iload_n 1, 1) := by decide +kernel
theorem dX6_tie_86 : decode cX6_tie 86 = .ok (.iastore, 1) := by decide +kernel
theorem dX6_tie_87 : decode cX6_tie 87 = .ok (.aload_n 0, 1) := by decide +kernel
theorem dX6_tie_88 : decode cX6_tie 88 = .ok (.getfield 19, 3) := by decide +kernel
theorem dX6_tie_91 : decode cX6_tie 91 = .ok (.bipush 13, 2) := by decide +kernel
theorem dX6_tie_93 : decode cX6_tie 93 = .ok (.iload 4, 2) := by decide +kernel
theorem dX6_tie_95 : decode cX6_tie 95 = .ok (.iadd, 1) := by decide +kernel
theorem dX6_tie_96 : decode cX6_tie 96 = .ok (.iload_n 2, 1) := by decide +kernel
theorem dX6_tie_97 : decode cX6_tie 97 = .ok (.iastore, 1) := by decide +kernel
theorem dX6_tie_98 : decode cX6_tie 98 = .ok (.aload_n 0, 1) := by decide +kernel
theorem dX6_tie_99 : decode cX6_tie 99 = .ok (.getfield 19, 3) := by decide +kernel
theorem dX6_tie_102 : decode cX6_tie 102 = .ok (.bipush 21, 2) := by decide +kernel
theorem dX6_tie_104 : decode cX6_tie 104 = .ok (.iload 4, 2) := by decide +kernel
theorem dX6_tie_106 : decode cX6_tie 106 = .ok (.iadd, 1) := by decide +kernel
theorem dX6_tie_107 : decode cX6_tie 107 = .ok (.iload_n 3, 1) := by decide +kernel
theorem dX6_tie_108 : decode cX6_tie 108 = .ok (.iastore, 1) := by decide +kernel
theorem dX6_tie_109 : decode cX6_tie 109 = .ok (.aload_n 0, 1) := by decide +kernel
theorem dX6_tie_110 : decode cX6_tie 110 = .ok (.getfield 19, 3) := by decide +kernel
theorem dX6_tie_113 : decode cX6_tie 113 = .ok (.iconst 1, 1) := by decide +kernel
theorem dX6_tie_114 : decode cX6_tie 114 = .ok (.dup2, 1) := by decide +kernel
theorem dX6_tie_115 : decode cX6_tie 115 = .ok (.iaload, 1) := by decide +kernel
theorem dX6_tie_116 : decode cX6_tie 116 = .ok (.iconst 1, 1) := by decide +kernel
theorem dX6_tie_117 : decode cX6_tie 117 = .ok (.iadd, 1) := by decide +kernel
theorem dX6_tie_118 : decode cX6_tie 118 = .ok (.iastore, 1) := by decide +kernel
theorem dX6_tie_119 : decode cX6_tie 119 = .ok (.iload 4, 2) := by decide +kernel
theorem dX6_tie_121 : decode cX6_tie 121 = .ok (.ireturn, 1) := by decide +kernel
set_option maxRecDepth 20000 in
theorem ggX6_untie_X6_note : GoodIn wsX6_untie wsX6_note := goodIn_r _ [7, 8, 9, 1, 10, 11, 12, 13, 14, 15, 16, 17, 18, 19, 20, 21, 22, 23, 24, 25, 26, 27, 28, 29, 30, 31] (by decide +kernel) (by decide +kernel)
set_option maxRecDepth 20000 in
theorem gX6_untie_X6_note : GoodIn wsX6_untie (wsV RX6 151 RX6 yX6_note wsX6_note) := goodIn_app (goodIn_of _ (by decide +kernel)) ggX6_untie_X6_note
theorem dX6_untie_0 : decode cX6_untie 0 = .ok (.aload_n 0, 1) := by decide +kernel
theorem dX6_untie_1 : decode cX6_untie 1 = .ok (.getfield 19, 3) := by decide +kernel
theorem dX6_untie_4 : decode cX6_untie 4 = .ok (.iconst 1, 1) := by decide +kernel
theorem dX6_untie_5 : decode cX6_untie 5 = .ok (.iaload, 1) := by decide +kernel
theorem dX6_untie_6 : decode cX6_untie 6 = .ok (.ifCond .ne 6, 3) := by decide +kernel
theorem dX6_untie_9 : decode cX6_untie 9 = .ok (.ldc 150, 2) := by decide +kernel
theorem dX6_untie_11 : decode cX6_untie 11 = .ok (.ireturn, 1) := by decide +kernel
theorem dX6_untie_12 : decode cX6_untie 12 = .ok (.aload_n 0, 1) := by decide +kernel
theorem dX6_untie_13 : decode cX6_untie 13 = .ok (.invokevirtual 151, 3) := by decide +kernel
theorem dX6_untie_16 : decode cX6_untie 16 = .ok (.aload_n 0, 1) := by decide +kernel
theorem dX6_untie_17 : decode cX6_untie 17 = .ok (.getfield 19, 3) := by decide +kernel
theorem dX6_untie_20 : decode cX6_untie 20 = .ok (.iconst 1, 1) := by decide +kernel
theorem dX6_untie_21 : decode cX6_untie 21 = .ok (.dup2, 1) := by decide +kernel
theorem dX6_untie_22 : decode cX6_untie 22 = .ok (.iaload, 1) := by decide +kernel
theorem dX6_untie_23 : decode cX6_untie 23 = .ok (.iconst 1, 1) := by decide +kernel
theorem dX6_untie_24 : decode cX6_untie 24 = .ok (.isub, 1) := by decide +kernel
theorem dX6_untie_25 : decode cX6_untie 25 = .ok (.iastore, 1) := by decide +kernel
theorem dX6_untie_26 : decode cX6_untie 26 = .ok (.aload_n 0, 1) := by decide +kernel
theorem dX6_untie_27 : decode cX6_untie 27 = .ok (.getfield 19, 3) := by decide +kernel
theorem dX6_untie_30 : decode cX6_untie 30 = .ok (.iconst 1, 1) := by decide +kernel
theorem dX6_untie_31 : decode cX6_untie 31 = .ok (.iaload, 1) := by decide +kernel
theorem dX6_untie_32 : decode cX6_untie 32 = .ok (.ireturn, 1) := by decide +kernel
set_option maxRecDepth 20000 in
theorem ggX6_meals_X6_in : GoodIn wsX6_meals wsX6_in := goodIn_r _ [10] (by decide +kernel) (by decide +kernel)
set_option maxRecDepth 20000 in
theorem gX6_meals_X6_in : GoodIn wsX6_meals (va_wsS RX6 51 yX6_in wsX6_in) := goodIn_app (goodIn_of _ (by decide +kernel)) ggX6_meals_X6_in
set_option maxRecDepth 20000 in
theorem ggX6_meals_X6_note : GoodIn wsX6_meals wsX6_note := goodIn_r _ [14, 15, 16, 5, 36, 37, 38, 39, 40, 41, 42, 43, 44, 45, 46, 47, 48, 49, 50, 51, 52, 53, 54, 55, 56, 57] (by decide +kernel) (by decide +kernel)
set_option maxRecDepth 20000 in
theorem gX6_meals_X6_note : GoodIn wsX6_meals (wsV RX6 151 RX6 yX6_note wsX6_note) := goodIn_app (goodIn_of _ (by decide +kernel)) ggX6_meals_X6_note
set_option maxRecDepth 20000 in
theorem ggX6_meals_X6_here : GoodIn wsX6_meals wsX6_here := goodIn_r _ [20, 5, 21, 22, 23, 9, 24, 36, 37, 38, 39, 40, 41, 42, 43, 44, 45, 46, 47, 48, 49, 50, 51, 52, 53, 54, 55, 56, 57] (by decide +kernel) (by decide +kernel)
set_option maxRecDepth 20000 in
theorem gX6_meals_X6_here : GoodIn wsX6_meals (wsV RX6 160 RX6 yX6_here wsX6_here) := goodIn_app (goodIn_of _ (by decide +kernel)) ggX6_meals_X6_here
set_option maxRecDepth 20000 in
theorem ggX6_meals_X6_worthOf : GoodIn wsX6_meals wsX6_worthOf := goodIn_r _ [28, 5, 29, 30, 31, 9, 32, 33, 34, 35, 36, 37, 38, 39, 40, 41, 42, 43, 44, 45, 46, 47, 48, 49, 50, 51, 52, 53, 54, 55, 56, 57] (by decide +kernel) (by decide +kernel)
set_option maxRecDepth 20000 in
theorem gX6_meals_X6_worthOf : GoodIn wsX6_meals (wsV RX6 163 RX6 yX6_worthOf wsX6_worthOf) := goodIn_app (goodIn_of _ (by decide +kernel)) ggX6_meals_X6_worthOf
theorem dX6_meals_0 : decode cX6_meals 0 = .ok (.aload_n 0, 1) := by decide +kernel
theorem dX6_meals_1 : decode cX6_meals 1 = .ok (.getfield 129, 3) := by decide +kernel
theorem dX6_meals_4 : decode cX6_meals 4 = .ok (.ifCond .ne 6, 3) := by decide +kernel
theorem dX6_meals_7 : decode cX6_meals 7 = .ok (.ldc 150, 2) := by decide +kernel
theorem dX6_meals_9 : decode cX6_meals 9 = .ok (.ireturn, 1) := by decide +kernel
theorem dX6_meals_10 : decode cX6_meals 10 = .ok (.iload_n 1, 1) := by decide +kernel
theorem dX6_meals_11 : decode cX6_meals 11 = .ok (.i2l, 1) := by decide +kernel
theorem dX6_meals_12 : decode cX6_meals 12 = .ok (.lconst 1, 1) := by decide +kernel
theorem dX6_meals_13 : decode cX6_meals 13 = .ok (.ldc2_w 158, 3) := by decide +kernel
theorem dX6_meals_16 : decode cX6_meals 16 = .ok (.invokestatic 51, 3) := by decide +kernel
theorem dX6_meals_19 : decode cX6_meals 19 = .ok (.ifCond .ne 6, 3) := by decide +kernel
theorem dX6_meals_22 : decode cX6_meals 22 = .ok (.ldc 61, 2) := by decide +kernel
theorem dX6_meals_24 : decode cX6_meals 24 = .ok (.ireturn, 1) := by decide +kernel
theorem dX6_meals_25 : decode cX6_meals 25 = .ok (.aload_n 0, 1) := by decide +kernel
theorem dX6_meals_26 : decode cX6_meals 26 = .ok (.getfield 19, 3) := by decide +kernel
theorem dX6_meals_29 : decode cX6_meals 29 = .ok (.iconst 2, 1) := by decide +kernel
theorem dX6_meals_30 : decode cX6_meals 30 = .ok (.iaload, 1) := by decide +kernel
theorem dX6_meals_31 : decode cX6_meals 31 = .ok (.iload_n 1, 1) := by decide +kernel
theorem dX6_meals_32 : decode cX6_meals 32 = .ok (.iadd, 1) := by decide +kernel
theorem dX6_meals_33 : decode cX6_meals 33 = .ok (.sipush 999, 3) := by decide +kernel
theorem dX6_meals_36 : decode cX6_meals 36 = .ok (.if_icmp .le 6, 3) := by decide +kernel
theorem dX6_meals_39 : decode cX6_meals 39 = .ok (.ldc 78, 2) := by decide +kernel
theorem dX6_meals_41 : decode cX6_meals 41 = .ok (.ireturn, 1) := by decide +kernel
theorem dX6_meals_42 : decode cX6_meals 42 = .ok (.iconst 0, 1) := by decide +kernel
theorem dX6_meals_43 : decode cX6_meals 43 = .ok (.istore_n 2, 1) := by decide +kernel
theorem dX6_meals_44 : decode cX6_meals 44 = .ok (.iload_n 2, 1) := by decide +kernel
theorem dX6_meals_45 : decode cX6_meals 45 = .ok (.iload_n 1, 1) := by decide +kernel
theorem dX6_meals_46 : decode cX6_meals 46 = .ok (.if_icmp .ge 40, 3) := by decide +kernel
theorem dX6_meals_49 : decode cX6_meals 49 = .ok (.aload_n 0, 1) := by decide +kernel
theorem dX6_meals_50 : decode cX6_meals 50 = .ok (.invokevirtual 151, 3) := by decide +kernel
theorem dX6_meals_53 : decode cX6_meals 53 = .ok (.aload_n 0, 1) := by decide +kernel
theorem dX6_meals_54 : decode cX6_meals 54 = .ok (.getfield 19, 3) := by decide +kernel
theorem dX6_meals_57 : decode cX6_meals 57 = .ok (.iconst 2, 1) := by decide +kernel
theorem dX6_meals_58 : decode cX6_meals 58 = .ok (.dup2, 1) := by decide +kernel
theorem dX6_meals_59 : decode cX6_meals 59 = .ok (.iaload, 1) := by decide +kernel
theorem dX6_meals_60 : decode cX6_meals 60 = .ok (.iconst 1, 1) := by decide +kernel
theorem dX6_meals_61 : decode cX6_meals 61 = .ok (.iadd, 1) := by decide +kernel
theorem dX6_meals_62 : decode cX6_meals 62 = .ok (.iastore, 1) := by decide +kernel
theorem dX6_meals_63 : decode cX6_meals 63 = .ok (.aload_n 0, 1) := by decide +kernel
theorem dX6_meals_64 : decode cX6_meals 64 = .ok (.getfield 19, 3) := by decide +kernel
theorem dX6_meals_67 : decode cX6_meals 67 = .ok (.iconst 3, 1) := by decide +kernel
theorem dX6_meals_68 : decode cX6_meals 68 = .ok (.dup2, 1) := by decide +kernel
theorem dX6_meals_69 : decode cX6_meals 69 = .ok (.iaload, 1) := by decide +kernel
theorem dX6_meals_70 : decode cX6_meals 70 = .ok (.aload_n 0, 1) := by decide +kernel
theorem dX6_meals_71 : decode cX6_meals 71 = .ok (.aload_n 0, 1) := by decide +kernel
theorem dX6_meals_72 : decode cX6_meals 72 = .ok (.invokevirtual 160, 3) := by decide +kernel
theorem dX6_meals_75 : decode cX6_meals 75 = .ok (.invokevirtual 163, 3) := by decide +kernel
theorem dX6_meals_78 : decode cX6_meals 78 = .ok (.iadd, 1) := by decide +kernel
theorem dX6_meals_79 : decode cX6_meals 79 = .ok (.iastore, 1) := by decide +kernel
theorem dX6_meals_80 : decode cX6_meals 80 = .ok (.iinc 2 1, 3) := by decide +kernel
theorem dX6_meals_83 : decode cX6_meals 83 = .ok (.goto (-39), 3) := by decide +kernel
theorem dX6_meals_86 : decode cX6_meals 86 = .ok (.aload_n 0, 1) := by decide +kernel
theorem dX6_meals_87 : decode cX6_meals 87 = .ok (.getfield 19, 3) := by decide +kernel
theorem dX6_meals_90 : decode cX6_meals 90 = .ok (.iconst 3, 1) := by decide +kernel
theorem dX6_meals_91 : decode cX6_meals 91 = .ok (.iaload, 1) := by decide +kernel
theorem dX6_meals_92 : decode cX6_meals 92 = .ok (.ireturn, 1) := by decide +kernel
theorem dX6_undo_0 : decode cX6_undo 0 = .ok (.aload_n 0, 1) := by decide +kernel
theorem dX6_undo_1 : decode cX6_undo 1 = .ok (.getfield 133, 3) := by decide +kernel
theorem dX6_undo_4 : decode cX6_undo 4 = .ok (.ifCond .ne 6, 3) := by decide +kernel
theorem dX6_undo_7 : decode cX6_undo 7 = .ok (.ldc 150, 2) := by decide +kernel
theorem dX6_undo_9 : decode cX6_undo 9 = .ok (.ireturn, 1) := by decide +kernel
theorem dX6_undo_10 : decode cX6_undo 10 = .ok (.aload_n 0, 1) := by decide +kernel
theorem dX6_undo_11 : decode cX6_undo 11 = .ok (.dup, 1) := by decide +kernel
theorem dX6_undo_12 : decode cX6_undo 12 = .ok (.getfield 133, 3) := by decide +kernel
theorem dX6_undo_15 : decode cX6_undo 15 = .ok (.iconst 1, 1) := by decide +kernel
theorem dX6_undo_16 : decode cX6_undo 16 = .ok (.isub, 1) := by decide +kernel
theorem dX6_undo_17 : decode cX6_undo 17 = .ok (.putfield 133, 3) := by decide +kernel
theorem dX6_undo_20 : decode cX6_undo 20 = .ok (.iconst 0, 1) := by decide +kernel
theorem dX6_undo_21 : decode cX6_undo 21 = .ok (.istore_n 1, 1) := by decide +kernel
theorem dX6_undo_22 : decode cX6_undo 22 = .ok (.iload_n 1, 1) := by decide +kernel
theorem dX6_undo_23 : decode cX6_undo 23 = .ok (.bipush 29, 2) := by decide +kernel
theorem dX6_undo_25 : decode cX6_undo 25 = .ok (.if_icmp .ge 29, 3) := by decide +kernel
theorem dX6_undo_28 : decode cX6_undo 28 = .ok (.aload_n 0, 1) := by decide +kernel
theorem dX6_undo_29 : decode cX6_undo 29 = .ok (.getfield 19, 3) := by decide +kernel
theorem dX6_undo_32 : decode cX6_undo 32 = .ok (.iload_n 1, 1) := by decide +kernel
theorem dX6_undo_33 : decode cX6_undo 33 = .ok (.aload_n 0, 1) := by decide +kernel
theorem dX6_undo_34 : decode cX6_undo 34 = .ok (.getfield 31, 3) := by decide +kernel
theorem dX6_undo_37 : decode cX6_undo 37 = .ok (.bipush 29, 2) := by decide +kernel
theorem dX6_undo_39 : decode cX6_undo 39 = .ok (.aload_n 0, 1) := by decide +kernel
theorem dX6_undo_40 : decode cX6_undo 40 = .ok (.getfield 133, 3) := by decide +kernel
theorem dX6_undo_43 : decode cX6_undo 43 = .ok (.imul, 1) := by decide +kernel
theorem dX6_undo_44 : decode cX6_undo 44 = .ok (.iload_n 1, 1) := by decide +kernel
theorem dX6_undo_45 : decode cX6_undo 45 = .ok (.iadd, 1) := by decide +kernel
theorem dX6_undo_46 : decode cX6_undo 46 = .ok (.iaload, 1) := by decide +kernel
theorem dX6_undo_47 : decode cX6_undo 47 = .ok (.iastore, 1) := by decide +kernel
theorem dX6_undo_48 : decode cX6_undo 48 = .ok (.iinc 1 1, 3) := by decide +kernel
theorem dX6_undo_51 : decode cX6_undo 51 = .ok (.goto (-29), 3) := by decide +kernel
theorem dX6_undo_54 : decode cX6_undo 54 = .ok (.aload_n 0, 1) := by decide +kernel
theorem dX6_undo_55 : decode cX6_undo 55 = .ok (.getfield 133, 3) := by decide +kernel
theorem dX6_undo_58 : decode cX6_undo 58 = .ok (.ireturn, 1) := by decide +kernel
set_option maxRecDepth 20000 in
theorem ggX6_tieHas_X6_isTie : GoodIn wsX6_tieHas wsX6_isTie := goodIn_r _ [8, 3, 9, 10, 7, 11, 27, 28, 29, 30, 31, 32, 33, 34, 35, 36, 37, 38, 39, 40, 41, 42, 43, 44, 45, 46, 47, 48] (by decide +kernel) (by decide +kernel)
set_option maxRecDepth 20000 in
theorem gX6_tieHas_X6_isTie : GoodIn wsX6_tieHas (wsV RX6 166 RX6 yX6_isTie wsX6_isTie) := goodIn_app (goodIn_of _ (by decide +kernel)) ggX6_tieHas_X6_isTie
set_option maxRecDepth 20000 in
theorem ggX6_tieHas_X6_in : GoodIn wsX6_tieHas wsX6_in := goodIn_r _ [11] (by decide +kernel) (by decide +kernel)
set_option maxRecDepth 20000 in
theorem gX6_tieHas_X6_in : GoodIn wsX6_tieHas (va_wsS RX6 51 yX6_in wsX6_in) := goodIn_app (goodIn_of _ (by decide +kernel)) ggX6_tieHas_X6_in
set_option maxRecDepth 20000 in
theorem ggX6_tieHas_X6_here : GoodIn wsX6_tieHas wsX6_here := goodIn_r _ [15, 3, 16, 17, 18, 7, 19, 27, 28, 29, 30, 31, 32, 33, 34, 35, 36, 37, 38, 39, 40, 41, 42, 43, 44, 45, 46, 47, 48] (by decide +kernel) (by decide +kernel)
set_option maxRecDepth 20000 in
theorem gX6_tieHas_X6_here : GoodIn wsX6_tieHas (wsV RX6 160 RX6 yX6_here wsX6_here) := goodIn_app (goodIn_of _ (by decide +kernel)) ggX6_tieHas_X6_here
set_option maxRecDepth 20000 in
theorem ggX6_tieHas_X6_countsBy : GoodIn wsX6_tieHas wsX6_countsBy := goodIn_r _ [23, 3, 24, 25, 7, 26, 27, 28, 29, 30, 31, 32, 33, 34, 35, 36, 37, 38, 39, 40, 41, 42, 43, 44, 45, 46, 47, 48] (by decide +kernel) (by decide +kernel)
set_option maxRecDepth 20000 in
theorem gX6_tieHas_X6_countsBy : GoodIn wsX6_tieHas (wsV RX6 143 RX6 yX6_countsBy wsX6_countsBy) := goodIn_app (goodIn_of _ (by decide +kernel)) ggX6_tieHas_X6_countsBy
theorem dX6_tieHas_0 : decode cX6_tieHas 0 = .ok (.aload_n 0, 1) := by decide +kernel
theorem dX6_tieHas_1 : decode cX6_tieHas 1 = .ok (.iload_n 1, 1) := by decide +kernel
theorem dX6_tieHas_2 : decode cX6_tieHas 2 = .ok (.invokevirtual 166, 3) := by decide +kernel
theorem dX6_tieHas_5 : decode cX6_tieHas 5 = .ok (.ifCond .eq 15, 3) := by decide +kernel
theorem dX6_tieHas_8 : decode cX6_tieHas 8 = .ok (.iload_n 2, 1) := by decide +kernel
theorem dX6_tieHas_9 : decode cX6_tieHas 9 = .ok (.i2l, 1) := by decide +kernel
theorem dX6_tieHas_10 : decode cX6_tieHas 10 = .ok (.lconst 0, 1) := by decide +kernel
theorem dX6_tieHas_11 : decode cX6_tieHas 11 = .ok (.ldc2_w 59, 3) := by decide +kernel
theorem dX6_tieHas_14 : decode cX6_tieHas 14 = .ok (.invokestatic 51, 3) := by decide +kernel
theorem dX6_tieHas_17 : decode cX6_tieHas 17 = .ok (.ifCond .ne 6, 3) := by decide +kernel
theorem dX6_tieHas_20 : decode cX6_tieHas 20 = .ok (.ldc 61, 2) := by decide +kernel
theorem dX6_tieHas_22 : decode cX6_tieHas 22 = .ok (.ireturn, 1) := by decide +kernel
theorem dX6_tieHas_23 : decode cX6_tieHas 23 = .ok (.iload_n 2, 1) := by decide +kernel
theorem dX6_tieHas_24 : decode cX6_tieHas 24 = .ok (.ifCond .ne 15, 3) := by decide +kernel
theorem dX6_tieHas_27 : decode cX6_tieHas 27 = .ok (.aload_n 0, 1) := by decide +kernel
theorem dX6_tieHas_28 : decode cX6_tieHas 28 = .ok (.getfield 19, 3) := by decide +kernel
theorem dX6_tieHas_31 : decode cX6_tieHas 31 = .ok (.bipush 13, 2) := by decide +kernel
theorem dX6_tieHas_33 : decode cX6_tieHas 33 = .ok (.iload_n 1, 1) := by decide +kernel
theorem dX6_tieHas_34 : decode cX6_tieHas 34 = .ok (.iadd, 1) := by decide +kernel
theorem dX6_tieHas_35 : decode cX6_tieHas 35 = .ok (.iaload, 1) := by decide +kernel
theorem dX6_tieHas_36 : decode cX6_tieHas 36 = .ok (.goto 37, 3) := by decide +kernel
theorem dX6_tieHas_39 : decode cX6_tieHas 39 = .ok (.iload_n 2, 1) := by decide +kernel
theorem dX6_tieHas_40 : decode cX6_tieHas 40 = .ok (.iconst 1, 1) := by decide +kernel
theorem dX6_tieHas_41 : decode cX6_tieHas 41 = .ok (.if_icmp .ne 15, 3) := by decide +kernel
theorem dX6_tieHas_44 : decode cX6_tieHas 44 = .ok (.aload_n 0, 1) := by decide +kernel
theorem dX6_tieHas_45 : decode cX6_tieHas 45 = .ok (.getfield 19, 3) := by decide +kernel
theorem dX6_tieHas_48 : decode cX6_tieHas 48 = .ok (.bipush 21, 2) := by decide +kernel
theorem dX6_tieHas_50 : decode cX6_tieHas 50 = .ok (.iload_n 1, 1) := by decide +kernel
theorem dX6_tieHas_51 : decode cX6_tieHas 51 = .ok (.iadd, 1) := by decide +kernel
theorem dX6_tieHas_52 : decode cX6_tieHas 52 = .ok (.iaload, 1) := by decide +kernel
theorem dX6_tieHas_53 : decode cX6_tieHas 53 = .ok (.goto 20, 3) := by decide +kernel
theorem dX6_tieHas_56 : decode cX6_tieHas 56 = .ok (.aload_n 0, 1) := by decide +kernel
theorem dX6_tieHas_57 : decode cX6_tieHas 57 = .ok (.aload_n 0, 1) := by decide +kernel
theorem dX6_tieHas_58 : decode cX6_tieHas 58 = .ok (.getfield 19, 3) := by decide +kernel
theorem dX6_tieHas_61 : decode cX6_tieHas 61 = .ok (.iconst 5, 1) := by decide +kernel
theorem dX6_tieHas_62 : decode cX6_tieHas 62 = .ok (.iload_n 1, 1) := by decide +kernel
theorem dX6_tieHas_63 : decode cX6_tieHas 63 = .ok (.iadd, 1) := by decide +kernel
theorem dX6_tieHas_64 : decode cX6_tieHas 64 = .ok (.iaload, 1) := by decide +kernel
theorem dX6_tieHas_65 : decode cX6_tieHas 65 = .ok (.iload_n 1, 1) := by decide +kernel
theorem dX6_tieHas_66 : decode cX6_tieHas 66 = .ok (.aload_n 0, 1) := by decide +kernel
theorem dX6_tieHas_67 : decode cX6_tieHas 67 = .ok (.invokevirtual 160, 3) := by decide +kernel
theorem dX6_tieHas_70 : decode cX6_tieHas 70 = .ok (.invokevirtual 143, 3) := by decide +kernel
theorem dX6_tieHas_73 : decode cX6_tieHas 73 = .ok (.ireturn, 1) := by decide +kernel
set_option maxRecDepth 20000 in
theorem ggX6_tableHas_X6_here : GoodIn wsX6_tableHas wsX6_here := goodIn_r _ [9, 3, 10, 11, 12, 8, 13, 25, 26, 27, 28, 29, 30, 31, 32, 33, 34, 35, 36, 37, 38, 39, 40, 41, 42, 43, 44, 45, 46] (by decide +kernel) (by decide +kernel)
set_option maxRecDepth 20000 in
theorem gX6_tableHas_X6_here : GoodIn wsX6_tableHas (wsV RX6 160 RX6 yX6_here wsX6_here) := goodIn_app (goodIn_of _ (by decide +kernel)) ggX6_tableHas_X6_here
set_option maxRecDepth 20000 in
theorem ggX6_tableHas_X6_worthOf : GoodIn wsX6_tableHas wsX6_worthOf := goodIn_r _ [17, 3, 18, 19, 20, 8, 21, 22, 23, 24, 25, 26, 27, 28, 29, 30, 31, 32, 33, 34, 35, 36, 37, 38, 39, 40, 41, 42, 43, 44, 45, 46] (by decide +kernel) (by decide +kernel)
set_option maxRecDepth 20000 in
theorem gX6_tableHas_X6_worthOf : GoodIn wsX6_tableHas (wsV RX6 163 RX6 yX6_worthOf wsX6_worthOf) := goodIn_app (goodIn_of _ (by decide +kernel)) ggX6_tableHas_X6_worthOf
set_option maxRecDepth 20000 in
theorem ggX6_tableHas_X6_all : GoodIn wsX6_tableHas wsX6_all := goodIn_r _ [13, 3, 25, 26, 27, 28, 29, 30, 31, 32, 33, 34, 35, 36, 37, 38, 39, 40, 41, 42, 43, 44, 45, 46] (by decide +kernel) (by decide +kernel)
set_option maxRecDepth 20000 in
theorem gX6_tableHas_X6_all : GoodIn wsX6_tableHas (wsV RX6 136 RX6 yX6_all wsX6_all) := goodIn_app (goodIn_of _ (by decide +kernel)) ggX6_tableHas_X6_all
theorem dX6_tableHas_0 : decode cX6_tableHas 0 = .ok (.aload_n 0, 1) := by decide +kernel
theorem dX6_tableHas_1 : decode cX6_tableHas 1 = .ok (.getfield 129, 3) := by decide +kernel
theorem dX6_tableHas_4 : decode cX6_tableHas 4 = .ok (.ifCond .ne 6, 3) := by decide +kernel
theorem dX6_tableHas_7 : decode cX6_tableHas 7 = .ok (.ldc 150, 2) := by decide +kernel
theorem dX6_tableHas_9 : decode cX6_tableHas 9 = .ok (.ireturn, 1) := by decide +kernel
theorem dX6_tableHas_10 : decode cX6_tableHas 10 = .ok (.iload_n 1, 1) := by decide +kernel
theorem dX6_tableHas_11 : decode cX6_tableHas 11 = .ok (.tableswitch 70 0 4 #[33, 38, 47, 56, 63], 33) := by decide +kernel
theorem dX6_tableHas_44 : decode cX6_tableHas 44 = .ok (.aload_n 0, 1) := by decide +kernel
theorem dX6_tableHas_45 : decode cX6_tableHas 45 = .ok (.invokevirtual 160, 3) := by decide +kernel
theorem dX6_tableHas_48 : decode cX6_tableHas 48 = .ok (.ireturn, 1) := by decide +kernel
theorem dX6_tableHas_49 : decode cX6_tableHas 49 = .ok (.aload_n 0, 1) := by decide +kernel
theorem dX6_tableHas_50 : decode cX6_tableHas 50 = .ok (.aload_n 0, 1) := by decide +kernel
theorem dX6_tableHas_51 : decode cX6_tableHas 51 = .ok (.invokevirtual 160, 3) := by decide +kernel
theorem dX6_tableHas_54 : decode cX6_tableHas 54 = .ok (.invokevirtual 163, 3) := by decide +kernel
theorem dX6_tableHas_57 : decode cX6_tableHas 57 = .ok (.ireturn, 1) := by decide +kernel
theorem dX6_tableHas_58 : decode cX6_tableHas 58 = .ok (.aload_n 0, 1) := by decide +kernel
theorem dX6_tableHas_59 : decode cX6_tableHas 59 = .ok (.aload_n 0, 1) := by decide +kernel
theorem dX6_tableHas_60 : decode cX6_tableHas 60 = .ok (.invokevirtual 136, 3) := by decide +kernel
theorem dX6_tableHas_63 : decode cX6_tableHas 63 = .ok (.invokevirtual 163, 3) := by decide +kernel
theorem dX6_tableHas_66 : decode cX6_tableHas 66 = .ok (.ireturn, 1) := by decide +kernel
theorem dX6_tableHas_67 : decode cX6_tableHas 67 = .ok (.aload_n 0, 1) := by decide +kernel
theorem dX6_tableHas_68 : decode cX6_tableHas 68 = .ok (.getfield 19, 3) := by decide +kernel
theorem dX6_tableHas_71 : decode cX6_tableHas 71 = .ok (.iconst 2, 1) := by decide +kernel
theorem dX6_tableHas_72 : decode cX6_tableHas 72 = .ok (.iaload, 1) := by decide +kernel
theorem dX6_tableHas_73 : decode cX6_tableHas 73 = .ok (.ireturn, 1) := by decide +kernel
theorem dX6_tableHas_74 : decode cX6_tableHas 74 = .ok (.aload_n 0, 1) := by decide +kernel
theorem dX6_tableHas_75 : decode cX6_tableHas 75 = .ok (.getfield 19, 3) := by decide +kernel
theorem dX6_tableHas_78 : decode cX6_tableHas 78 = .ok (.iconst 3, 1) := by decide +kernel
theorem dX6_tableHas_79 : decode cX6_tableHas 79 = .ok (.iaload, 1) := by decide +kernel
theorem dX6_tableHas_80 : decode cX6_tableHas 80 = .ok (.ireturn, 1) := by decide +kernel
theorem dX6_tableHas_81 : decode cX6_tableHas 81 = .ok (.ldc 61, 2) := by decide +kernel
theorem dX6_tableHas_83 : decode cX6_tableHas 83 = .ok (.ireturn, 1) := by decide +kernel
set_option maxRecDepth 20000 in
theorem ggX6_worth_X6_isSet : GoodIn wsX6_worth wsX6_isSet := goodIn_r _ [8, 9, 10, 11, 7, 12, 13, 14, 15, 16, 28, 29, 30, 31, 32, 33, 34, 35, 36, 37, 38, 39, 40, 41, 42, 43, 44, 45, 46, 47, 48, 49] (by decide +kernel) (by decide +kernel)
set_option maxRecDepth 20000 in
theorem gX6_worth_X6_isSet : GoodIn wsX6_worth (wsV RX6 169 RX6 yX6_isSet wsX6_isSet) := goodIn_app (goodIn_of _ (by decide +kernel)) ggX6_worth_X6_isSet
set_option maxRecDepth 20000 in
theorem ggX6_worth_X6_worthOf : GoodIn wsX6_worth wsX6_worthOf := goodIn_r _ [20, 13, 21, 22, 23, 7, 24, 25, 26, 27, 28, 29, 30, 31, 32, 33, 34, 35, 36, 37, 38, 39, 40, 41, 42, 43, 44, 45, 46, 47, 48, 49] (by decide +kernel) (by decide +kernel)
set_option maxRecDepth 20000 in
theorem gX6_worth_X6_worthOf : GoodIn wsX6_worth (wsV RX6 163 RX6 yX6_worthOf wsX6_worthOf) := goodIn_app (goodIn_of _ (by decide +kernel)) ggX6_worth_X6_worthOf
theorem dX6_worth_0 : decode cX6_worth 0 = .ok (.aload_n 0, 1) := by decide +kernel
theorem dX6_worth_1 : decode cX6_worth 1 = .ok (.getfield 129, 3) := by decide +kernel
theorem dX6_worth_4 : decode cX6_worth 4 = .ok (.ifCond .ne 6, 3) := by decide +kernel
theorem dX6_worth_7 : decode cX6_worth 7 = .ok (.ldc 150, 2) := by decide +kernel
theorem dX6_worth_9 : decode cX6_worth 9 = .ok (.ireturn, 1) := by decide +kernel
theorem dX6_worth_10 : decode cX6_worth 10 = .ok (.aload_n 0, 1) := by decide +kernel
theorem dX6_worth_11 : decode cX6_worth 11 = .ok (.iload_n 1, 1) := by decide +kernel
theorem dX6_worth_12 : decode cX6_worth 12 = .ok (.invokevirtual 169, 3) := by decide +kernel
theorem dX6_worth_15 : decode cX6_worth 15 = .ok (.ifCond .eq 11, 3) := by decide +kernel
theorem dX6_worth_18 : decode cX6_worth 18 = .ok (.aload_n 0, 1) := by decide +kernel
theorem dX6_worth_19 : decode cX6_worth 19 = .ok (.iload_n 1, 1) := by decide +kernel
theorem dX6_worth_20 : decode cX6_worth 20 = .ok (.invokevirtual 163, 3) := by decide +kernel
theorem dX6_worth_23 : decode cX6_worth 23 = .ok (.goto 5, 3) := by decide +kernel
theorem dX6_worth_26 : decode cX6_worth 26 = .ok (.ldc 61, 2) := by decide +kernel
theorem dX6_worth_28 : decode cX6_worth 28 = .ok (.ireturn, 1) := by decide +kernel
set_option maxRecDepth 20000 in
theorem ggX6_addsTo_X6_worthOf : GoodIn wsX6_addsTo wsX6_worthOf := goodIn_r _ [5, 6, 7, 8, 9, 4, 10, 11, 12, 13, 14, 15, 16, 17, 18, 19, 20, 21, 22, 23, 24, 25, 26, 27, 28, 29, 30, 31, 32, 33, 34, 35] (by decide +kernel) (by decide +kernel)
set_option maxRecDepth 20000 in
theorem gX6_addsTo_X6_worthOf : GoodIn wsX6_addsTo (wsV RX6 163 RX6 yX6_worthOf wsX6_worthOf) := goodIn_app (goodIn_of _ (by decide +kernel)) ggX6_addsTo_X6_worthOf
theorem dX6_addsTo_0 : decode cX6_addsTo 0 = .ok (.aload_n 0, 1) := by decide +kernel
theorem dX6_addsTo_1 : decode cX6_addsTo 1 = .ok (.iload_n 2, 1) := by decide +kernel
theorem dX6_addsTo_2 : decode cX6_addsTo 2 = .ok (.iconst 1, 1) := by decide +kernel
theorem dX6_addsTo_3 : decode cX6_addsTo 3 = .ok (.iload_n 1, 1) := by decide +kernel
theorem dX6_addsTo_4 : decode cX6_addsTo 4 = .ok (.ishl, 1) := by decide +kernel
theorem dX6_addsTo_5 : decode cX6_addsTo 5 = .ok (.ior, 1) := by decide +kernel
theorem dX6_addsTo_6 : decode cX6_addsTo 6 = .ok (.invokevirtual 163, 3) := by decide +kernel
theorem dX6_addsTo_9 : decode cX6_addsTo 9 = .ok (.aload_n 0, 1) := by decide +kernel
theorem dX6_addsTo_10 : decode cX6_addsTo 10 = .ok (.iload_n 2, 1) := by decide +kernel
theorem dX6_addsTo_11 : decode cX6_addsTo 11 = .ok (.invokevirtual 163, 3) := by decide +kernel
theorem dX6_addsTo_14 : decode cX6_addsTo 14 = .ok (.isub, 1) := by decide +kernel
theorem dX6_addsTo_15 : decode cX6_addsTo 15 = .ok (.ireturn, 1) := by decide +kernel
set_option maxRecDepth 20000 in
theorem ggX6_adds_X6_isPerson : GoodIn wsX6_adds wsX6_isPerson := goodIn_r _ [6, 7, 8, 9, 5, 10, 37, 38, 39, 40, 41, 42, 43, 44, 45, 46, 47, 48, 49, 50, 51, 52, 53, 54, 55, 56, 57, 58] (by decide +kernel) (by decide +kernel)
set_option maxRecDepth 20000 in
theorem gX6_adds_X6_isPerson : GoodIn wsX6_adds (wsV RX6 147 RX6 yX6_isPerson wsX6_isPerson) := goodIn_app (goodIn_of _ (by decide +kernel)) ggX6_adds_X6_isPerson
set_option maxRecDepth 20000 in
theorem ggX6_adds_X6_isSet : GoodIn wsX6_adds wsX6_isSet := goodIn_r _ [14, 15, 16, 17, 5, 18, 7, 8, 9, 10, 37, 38, 39, 40, 41, 42, 43, 44, 45, 46, 47, 48, 49, 50, 51, 52, 53, 54, 55, 56, 57, 58] (by decide +kernel) (by decide +kernel)
set_option maxRecDepth 20000 in
theorem gX6_adds_X6_isSet : GoodIn wsX6_adds (wsV RX6 169 RX6 yX6_isSet wsX6_isSet) := goodIn_app (goodIn_of _ (by decide +kernel)) ggX6_adds_X6_isSet
set_option maxRecDepth 20000 in
theorem ggX6_adds_X6_has : GoodIn wsX6_adds wsX6_has := goodIn_r _ [21] (by decide +kernel) (by decide +kernel)
set_option maxRecDepth 20000 in
theorem gX6_adds_X6_has : GoodIn wsX6_adds (va_wsS RX6 172 yX6_has wsX6_has) := goodIn_app (goodIn_of _ (by decide +kernel)) ggX6_adds_X6_has
set_option maxRecDepth 20000 in
theorem ggX6_adds_X6_addsTo : GoodIn wsX6_adds wsX6_addsTo := goodIn_r _ [25, 26, 27, 28, 5, 29, 7, 30, 31, 32, 33, 34, 35, 36, 37, 38, 39, 40, 41, 42, 43, 44, 45, 46, 47, 48, 49, 50, 51, 52, 53, 54, 55, 56, 57, 58] (by decide +kernel) (by decide +kernel)
set_option maxRecDepth 20000 in
theorem gX6_adds_X6_addsTo : GoodIn wsX6_adds (wsV RX6 176 RX6 yX6_addsTo wsX6_addsTo) := goodIn_app (goodIn_of _ (by decide +kernel)) ggX6_adds_X6_addsTo
theorem dX6_adds_0 : decode cX6_adds 0 = .ok (.aload_n 0, 1) := by decide +kernel
theorem dX6_adds_1 : decode cX6_adds 1 = .ok (.iload_n 1, 1) := by decide +kernel
theorem dX6_adds_2 : decode cX6_adds 2 = .ok (.invokevirtual 147, 3) := by decide +kernel
theorem dX6_adds_5 : decode cX6_adds 5 = .ok (.ifCond .eq 28, 3) := by decide +kernel
theorem dX6_adds_8 : decode cX6_adds 8 = .ok (.aload_n 0, 1) := by decide +kernel
theorem dX6_adds_9 : decode cX6_adds 9 = .ok (.iload_n 2, 1) := by decide +kernel
theorem dX6_adds_10 : decode cX6_adds 10 = .ok (.invokevirtual 169, 3) := by decide +kernel
theorem dX6_adds_13 : decode cX6_adds 13 = .ok (.ifCond .eq 20, 3) := by decide +kernel
theorem dX6_adds_16 : decode cX6_adds 16 = .ok (.iload_n 2, 1) := by decide +kernel
theorem dX6_adds_17 : decode cX6_adds 17 = .ok (.iload_n 1, 1) := by decide +kernel
theorem dX6_adds_18 : decode cX6_adds 18 = .ok (.invokestatic 172, 3) := by decide +kernel
theorem dX6_adds_21 : decode cX6_adds 21 = .ok (.ifCond .ne 12, 3) := by decide +kernel
theorem dX6_adds_24 : decode cX6_adds 24 = .ok (.aload_n 0, 1) := by decide +kernel
theorem dX6_adds_25 : decode cX6_adds 25 = .ok (.iload_n 1, 1) := by decide +kernel
theorem dX6_adds_26 : decode cX6_adds 26 = .ok (.iload_n 2, 1) := by decide +kernel
theorem dX6_adds_27 : decode cX6_adds 27 = .ok (.invokevirtual 176, 3) := by decide +kernel
theorem dX6_adds_30 : decode cX6_adds 30 = .ok (.goto 5, 3) := by decide +kernel
theorem dX6_adds_33 : decode cX6_adds 33 = .ok (.ldc 61, 2) := by decide +kernel
theorem dX6_adds_35 : decode cX6_adds 35 = .ok (.ireturn, 1) := by decide +kernel
theorem dX6_factorial_0 : decode cX6_factorial 0 = .ok (.iconst 1, 1) := by decide +kernel
theorem dX6_factorial_1 : decode cX6_factorial 1 = .ok (.istore_n 1, 1) := by decide +kernel
theorem dX6_factorial_2 : decode cX6_factorial 2 = .ok (.iconst 2, 1) := by decide +kernel
theorem dX6_factorial_3 : decode cX6_factorial 3 = .ok (.istore_n 2, 1) := by decide +kernel
theorem dX6_factorial_4 : decode cX6_factorial 4 = .ok (.iload_n 2, 1) := by decide +kernel
theorem dX6_factorial_5 : decode cX6_factorial 5 = .ok (.iload_n 0, 1) := by decide +kernel
theorem dX6_factorial_6 : decode cX6_factorial 6 = .ok (.if_icmp .gt 13, 3) := by decide +kernel
theorem dX6_factorial_9 : decode cX6_factorial 9 = .ok (.iload_n 1, 1) := by decide +kernel
theorem dX6_factorial_10 : decode cX6_factorial 10 = .ok (.iload_n 2, 1) := by decide +kernel
theorem dX6_factorial_11 : decode cX6_factorial 11 = .ok (.imul, 1) := by decide +kernel
theorem dX6_factorial_12 : decode cX6_factorial 12 = .ok (.istore_n 1, 1) := by decide +kernel
theorem dX6_factorial_13 : decode cX6_factorial 13 = .ok (.iinc 2 1, 3) := by decide +kernel
theorem dX6_factorial_16 : decode cX6_factorial 16 = .ok (.goto (-12), 3) := by decide +kernel
theorem dX6_factorial_19 : decode cX6_factorial 19 = .ok (.iload_n 1, 1) := by decide +kernel
theorem dX6_factorial_20 : decode cX6_factorial 20 = .ok (.ireturn, 1) := by decide +kernel
theorem dX6_common_0 : decode cX6_common 0 = .ok (.iload_n 0, 1) := by decide +kernel
theorem dX6_common_1 : decode cX6_common 1 = .ok (.ifCond .ge 8, 3) := by decide +kernel
theorem dX6_common_4 : decode cX6_common 4 = .ok (.iload_n 0, 1) := by decide +kernel
theorem dX6_common_5 : decode cX6_common 5 = .ok (.ineg, 1) := by decide +kernel
theorem dX6_common_6 : decode cX6_common 6 = .ok (.goto 4, 3) := by decide +kernel
theorem dX6_common_9 : decode cX6_common 9 = .ok (.iload_n 0, 1) := by decide +kernel
theorem dX6_common_10 : decode cX6_common 10 = .ok (.istore_n 2, 1) := by decide +kernel
theorem dX6_common_11 : decode cX6_common 11 = .ok (.iload_n 1, 1) := by decide +kernel
theorem dX6_common_12 : decode cX6_common 12 = .ok (.istore_n 3, 1) := by decide +kernel
theorem dX6_common_13 : decode cX6_common 13 = .ok (.iload_n 3, 1) := by decide +kernel
theorem dX6_common_14 : decode cX6_common 14 = .ok (.ifCond .eq 16, 3) := by decide +kernel
theorem dX6_common_17 : decode cX6_common 17 = .ok (.iload_n 2, 1) := by decide +kernel
theorem dX6_common_18 : decode cX6_common 18 = .ok (.iload_n 3, 1) := by decide +kernel
theorem dX6_common_19 : decode cX6_common 19 = .ok (.irem, 1) := by decide +kernel
theorem dX6_common_20 : decode cX6_common 20 = .ok (.istore 4, 2) := by decide +kernel
theorem dX6_common_22 : decode cX6_common 22 = .ok (.iload_n 3, 1) := by decide +kernel
theorem dX6_common_23 : decode cX6_common 23 = .ok (.istore_n 2, 1) := by decide +kernel
theorem dX6_common_24 : decode cX6_common 24 = .ok (.iload 4, 2) := by decide +kernel
theorem dX6_common_26 : decode cX6_common 26 = .ok (.istore_n 3, 1) := by decide +kernel
theorem dX6_common_27 : decode cX6_common 27 = .ok (.goto (-14), 3) := by decide +kernel
theorem dX6_common_30 : decode cX6_common 30 = .ok (.iload_n 2, 1) := by decide +kernel
theorem dX6_common_31 : decode cX6_common 31 = .ok (.ireturn, 1) := by decide +kernel
set_option maxRecDepth 20000 in
theorem ggX6_due_X6_isPerson : GoodIn wsX6_due wsX6_isPerson := goodIn_r _ [7, 2, 8, 9, 6, 10, 39, 40, 41, 42, 43, 44, 45, 46, 47, 48, 49, 50, 51, 52, 53, 54, 55, 56, 57, 58, 59, 60] (by decide +kernel) (by decide +kernel)
set_option maxRecDepth 20000 in
theorem gX6_due_X6_isPerson : GoodIn wsX6_due (wsV RX6 147 RX6 yX6_isPerson wsX6_isPerson) := goodIn_app (goodIn_of _ (by decide +kernel)) ggX6_due_X6_isPerson
set_option maxRecDepth 20000 in
theorem ggX6_due_X6_in : GoodIn wsX6_due wsX6_in := goodIn_r _ [10] (by decide +kernel) (by decide +kernel)
set_option maxRecDepth 20000 in
theorem gX6_due_X6_in : GoodIn wsX6_due (va_wsS RX6 51 yX6_in wsX6_in) := goodIn_app (goodIn_of _ (by decide +kernel)) ggX6_due_X6_in
set_option maxRecDepth 20000 in
theorem ggX6_due_X6_all : GoodIn wsX6_due wsX6_all := goodIn_r _ [14, 2, 39, 40, 41, 42, 43, 44, 45, 46, 47, 48, 49, 50, 51, 52, 53, 54, 55, 56, 57, 58, 59, 60] (by decide +kernel) (by decide +kernel)
set_option maxRecDepth 20000 in
theorem gX6_due_X6_all : GoodIn wsX6_due (wsV RX6 136 RX6 yX6_all wsX6_all) := goodIn_app (goodIn_of _ (by decide +kernel)) ggX6_due_X6_all
set_option maxRecDepth 20000 in
theorem ggX6_due_X6_has : GoodIn wsX6_due wsX6_has := goodIn_r _ [17] (by decide +kernel) (by decide +kernel)
set_option maxRecDepth 20000 in
theorem gX6_due_X6_has : GoodIn wsX6_due (va_wsS RX6 172 yX6_has wsX6_has) := goodIn_app (goodIn_of _ (by decide +kernel)) ggX6_due_X6_has
set_option maxRecDepth 20000 in
theorem ggX6_due_X6_ones : GoodIn wsX6_due wsX6_ones := goodIn_r _ [20] (by decide +kernel) (by decide +kernel)
set_option maxRecDepth 20000 in
theorem gX6_due_X6_ones : GoodIn wsX6_due (va_wsS RX6 140 yX6_ones wsX6_ones) := goodIn_app (goodIn_of _ (by decide +kernel)) ggX6_due_X6_ones
set_option maxRecDepth 20000 in
theorem ggX6_due_X6_factorial : GoodIn wsX6_due wsX6_factorial := goodIn_r _ [23] (by decide +kernel) (by decide +kernel)
set_option maxRecDepth 20000 in
theorem gX6_due_X6_factorial : GoodIn wsX6_due (va_wsS RX6 179 yX6_factorial wsX6_factorial) := goodIn_app (goodIn_of _ (by decide +kernel)) ggX6_due_X6_factorial
set_option maxRecDepth 20000 in
theorem ggX6_due_X6_addsTo : GoodIn wsX6_due wsX6_addsTo := goodIn_r _ [27, 28, 29, 30, 6, 31, 2, 32, 33, 34, 35, 18, 19, 20, 39, 40, 41, 42, 43, 44, 45, 46, 47, 48, 49, 50, 51, 52, 53, 54, 55, 56, 57, 58, 59, 60] (by decide +kernel) (by decide +kernel)
set_option maxRecDepth 20000 in
theorem gX6_due_X6_addsTo : GoodIn wsX6_due (wsV RX6 176 RX6 yX6_addsTo wsX6_addsTo) := goodIn_app (goodIn_of _ (by decide +kernel)) ggX6_due_X6_addsTo
set_option maxRecDepth 20000 in
theorem ggX6_due_X6_common : GoodIn wsX6_due wsX6_common := goodIn_r _ [38] (by decide +kernel) (by decide +kernel)
set_option maxRecDepth 20000 in
theorem gX6_due_X6_common : GoodIn wsX6_due (va_wsS RX6 182 yX6_common wsX6_common) := goodIn_app (goodIn_of _ (by decide +kernel)) ggX6_due_X6_common
theorem dX6_due_0 : decode cX6_due 0 = .ok (.aload_n 0, 1) := by decide +kernel
theorem dX6_due_1 : decode cX6_due 1 = .ok (.iload_n 1, 1) := by decide +kernel
theorem dX6_due_2 : decode cX6_due 2 = .ok (.invokevirtual 147, 3) := by decide +kernel
theorem dX6_due_5 : decode cX6_due 5 = .ok (.ifCond .eq 13, 3) := by decide +kernel
theorem dX6_due_8 : decode cX6_due 8 = .ok (.iload_n 2, 1) := by decide +kernel
theorem dX6_due_9 : decode cX6_due 9 = .ok (.i2l, 1) := by decide +kernel
theorem dX6_due_10 : decode cX6_due 10 = .ok (.lconst 0, 1) := by decide +kernel
theorem dX6_due_11 : decode cX6_due 11 = .ok (.lconst 1, 1) := by decide +kernel
theorem dX6_due_12 : decode cX6_due 12 = .ok (.invokestatic 51, 3) := by decide +kernel
theorem dX6_due_15 : decode cX6_due 15 = .ok (.ifCond .ne 6, 3) := by decide +kernel
theorem dX6_due_18 : decode cX6_due 18 = .ok (.ldc 61, 2) := by decide +kernel
theorem dX6_due_20 : decode cX6_due 20 = .ok (.ireturn, 1) := by decide +kernel
theorem dX6_due_21 : decode cX6_due 21 = .ok (.aload_n 0, 1) := by decide +kernel
theorem dX6_due_22 : decode cX6_due 22 = .ok (.getfield 19, 3) := by decide +kernel
theorem dX6_due_25 : decode cX6_due 25 = .ok (.iconst 0, 1) := by decide +kernel
theorem dX6_due_26 : decode cX6_due 26 = .ok (.iaload, 1) := by decide +kernel
theorem dX6_due_27 : decode cX6_due 27 = .ok (.istore_n 3, 1) := by decide +kernel
theorem dX6_due_28 : decode cX6_due 28 = .ok (.iconst 0, 1) := by decide +kernel
theorem dX6_due_29 : decode cX6_due 29 = .ok (.istore 4, 2) := by decide +kernel
theorem dX6_due_31 : decode cX6_due 31 = .ok (.iconst 0, 1) := by decide +kernel
theorem dX6_due_32 : decode cX6_due 32 = .ok (.istore 5, 2) := by decide +kernel
theorem dX6_due_34 : decode cX6_due 34 = .ok (.iload 5, 2) := by decide +kernel
theorem dX6_due_36 : decode cX6_due 36 = .ok (.aload_n 0, 1) := by decide +kernel
theorem dX6_due_37 : decode cX6_due 37 = .ok (.invokevirtual 136, 3) := by decide +kernel
theorem dX6_due_40 : decode cX6_due 40 = .ok (.if_icmp .gt 52, 3) := by decide +kernel
theorem dX6_due_43 : decode cX6_due 43 = .ok (.iload 5, 2) := by decide +kernel
theorem dX6_due_45 : decode cX6_due 45 = .ok (.iload_n 1, 1) := by decide +kernel
theorem dX6_due_46 : decode cX6_due 46 = .ok (.invokestatic 172, 3) := by decide +kernel
theorem dX6_due_49 : decode cX6_due 49 = .ok (.ifCond .ne 37, 3) := by decide +kernel
theorem dX6_due_52 : decode cX6_due 52 = .ok (.iload 4, 2) := by decide +kernel
theorem dX6_due_54 : decode cX6_due 54 = .ok (.iload 5, 2) := by decide +kernel
theorem dX6_due_56 : decode cX6_due 56 = .ok (.invokestatic 140, 3) := by decide +kernel
theorem dX6_due_59 : decode cX6_due 59 = .ok (.invokestatic 179, 3) := by decide +kernel
theorem dX6_due_62 : decode cX6_due 62 = .ok (.iload_n 3, 1) := by decide +kernel
theorem dX6_due_63 : decode cX6_due 63 = .ok (.iconst 1, 1) := by decide +kernel
theorem dX6_due_64 : decode cX6_due 64 = .ok (.isub, 1) := by decide +kernel
theorem dX6_due_65 : decode cX6_due 65 = .ok (.iload 5, 2) := by decide +kernel
theorem dX6_due_67 : decode cX6_due 67 = .ok (.invokestatic 140, 3) := by decide +kernel
theorem dX6_due_70 : decode cX6_due 70 = .ok (.isub, 1) := by decide +kernel
theorem dX6_due_71 : decode cX6_due 71 = .ok (.invokestatic 179, 3) := by decide +kernel
theorem dX6_due_74 : decode cX6_due 74 = .ok (.imul, 1) := by decide +kernel
theorem dX6_due_75 : decode cX6_due 75 = .ok (.aload_n 0, 1) := by decide +kernel
theorem dX6_due_76 : decode cX6_due 76 = .ok (.iload_n 1, 1) := by decide +kernel
theorem dX6_due_77 : decode cX6_due 77 = .ok (.iload 5, 2) := by decide +kernel
theorem dX6_due_79 : decode cX6_due 79 = .ok (.invokevirtual 176, 3) := by decide +kernel
theorem dX6_due_82 : decode cX6_due 82 = .ok (.imul, 1) := by decide +kernel
theorem dX6_due_83 : decode cX6_due 83 = .ok (.iadd, 1) := by decide +kernel
theorem dX6_due_84 : decode cX6_due 84 = .ok (.istore 4, 2) := by decide +kernel
theorem dX6_due_86 : decode cX6_due 86 = .ok (.iinc 5 1, 3) := by decide +kernel
theorem dX6_due_89 : decode cX6_due 89 = .ok (.goto (-55), 3) := by decide +kernel
theorem dX6_due_92 : decode cX6_due 92 = .ok (.iload_n 3, 1) := by decide +kernel
theorem dX6_due_93 : decode cX6_due 93 = .ok (.invokestatic 179, 3) := by decide +kernel
theorem dX6_due_96 : decode cX6_due 96 = .ok (.istore 5, 2) := by decide +kernel
theorem dX6_due_98 : decode cX6_due 98 = .ok (.iload 4, 2) := by decide +kernel
theorem dX6_due_100 : decode cX6_due 100 = .ok (.iload 5, 2) := by decide +kernel
theorem dX6_due_102 : decode cX6_due 102 = .ok (.invokestatic 182, 3) := by decide +kernel
theorem dX6_due_105 : decode cX6_due 105 = .ok (.istore 6, 2) := by decide +kernel
theorem dX6_due_107 : decode cX6_due 107 = .ok (.iload_n 2, 1) := by decide +kernel
theorem dX6_due_108 : decode cX6_due 108 = .ok (.ifCond .ne 11, 3) := by decide +kernel
theorem dX6_due_111 : decode cX6_due 111 = .ok (.iload 4, 2) := by decide +kernel
theorem dX6_due_113 : decode cX6_due 113 = .ok (.iload 6, 2) := by decide +kernel
theorem dX6_due_115 : decode cX6_due 115 = .ok (.idiv, 1) := by decide +kernel
theorem dX6_due_116 : decode cX6_due 116 = .ok (.goto 8, 3) := by decide +kernel
theorem dX6_due_119 : decode cX6_due 119 = .ok (.iload 5, 2) := by decide +kernel
theorem dX6_due_121 : decode cX6_due 121 = .ok (.iload 6, 2) := by decide +kernel
theorem dX6_due_123 : decode cX6_due 123 = .ok (.idiv, 1) := by decide +kernel
theorem dX6_due_124 : decode cX6_due 124 = .ok (.ireturn, 1) := by decide +kernel
set_option maxRecDepth 20000 in
theorem ggX6_missedBy_X6_all : GoodIn wsX6_missedBy wsX6_all := goodIn_r _ [5, 6, 18, 19, 20, 21, 22, 23, 24, 25, 26, 27, 28, 29, 30, 31, 32, 33, 34, 35, 36, 37, 38, 39] (by decide +kernel) (by decide +kernel)
set_option maxRecDepth 20000 in
theorem gX6_missedBy_X6_all : GoodIn wsX6_missedBy (wsV RX6 136 RX6 yX6_all wsX6_all) := goodIn_app (goodIn_of _ (by decide +kernel)) ggX6_missedBy_X6_all
set_option maxRecDepth 20000 in
theorem ggX6_missedBy_X6_worthOf : GoodIn wsX6_missedBy wsX6_worthOf := goodIn_r _ [10, 6, 11, 12, 13, 4, 14, 15, 16, 17, 18, 19, 20, 21, 22, 23, 24, 25, 26, 27, 28, 29, 30, 31, 32, 33, 34, 35, 36, 37, 38, 39] (by decide +kernel) (by decide +kernel)
set_option maxRecDepth 20000 in
theorem gX6_missedBy_X6_worthOf : GoodIn wsX6_missedBy (wsV RX6 163 RX6 yX6_worthOf wsX6_worthOf) := goodIn_app (goodIn_of _ (by decide +kernel)) ggX6_missedBy_X6_worthOf
theorem dX6_missedBy_0 : decode cX6_missedBy 0 = .ok (.aload_n 0, 1) := by decide +kernel
theorem dX6_missedBy_1 : decode cX6_missedBy 1 = .ok (.aload_n 0, 1) := by decide +kernel
theorem dX6_missedBy_2 : decode cX6_missedBy 2 = .ok (.invokevirtual 136, 3) := by decide +kernel
theorem dX6_missedBy_5 : decode cX6_missedBy 5 = .ok (.invokevirtual 163, 3) := by decide +kernel
theorem dX6_missedBy_8 : decode cX6_missedBy 8 = .ok (.aload_n 0, 1) := by decide +kernel
theorem dX6_missedBy_9 : decode cX6_missedBy 9 = .ok (.aload_n 0, 1) := by decide +kernel
theorem dX6_missedBy_10 : decode cX6_missedBy 10 = .ok (.invokevirtual 136, 3) := by decide +kernel
theorem dX6_missedBy_13 : decode cX6_missedBy 13 = .ok (.iload_n 1, 1) := by decide +kernel
theorem dX6_missedBy_14 : decode cX6_missedBy 14 = .ok (.iconst (-1), 1) := by decide +kernel
theorem dX6_missedBy_15 : decode cX6_missedBy 15 = .ok (.ixor, 1) := by decide +kernel
theorem dX6_missedBy_16 : decode cX6_missedBy 16 = .ok (.iand, 1) := by decide +kernel
theorem dX6_missedBy_17 : decode cX6_missedBy 17 = .ok (.invokevirtual 163, 3) := by decide +kernel
theorem dX6_missedBy_20 : decode cX6_missedBy 20 = .ok (.isub, 1) := by decide +kernel
theorem dX6_missedBy_21 : decode cX6_missedBy 21 = .ok (.ireturn, 1) := by decide +kernel
set_option maxRecDepth 20000 in
theorem ggX6_missed_X6_isPerson : GoodIn wsX6_missed wsX6_isPerson := goodIn_r _ [6, 7, 8, 9, 5, 10, 30, 31, 32, 33, 34, 35, 36, 37, 38, 39, 40, 41, 42, 43, 44, 45, 46, 47, 48, 49, 50, 51] (by decide +kernel) (by decide +kernel)
set_option maxRecDepth 20000 in
theorem gX6_missed_X6_isPerson : GoodIn wsX6_missed (wsV RX6 147 RX6 yX6_isPerson wsX6_isPerson) := goodIn_app (goodIn_of _ (by decide +kernel)) ggX6_missed_X6_isPerson
set_option maxRecDepth 20000 in
theorem ggX6_missed_X6_missedBy : GoodIn wsX6_missed wsX6_missedBy := goodIn_r _ [14, 15, 16, 17, 5, 18, 7, 19, 20, 21, 22, 23, 24, 25, 26, 27, 28, 29, 30, 31, 32, 33, 34, 35, 36, 37, 38, 39, 40, 41, 42, 43, 44, 45, 46, 47, 48, 49, 50, 51] (by decide +kernel) (by decide +kernel)
set_option maxRecDepth 20000 in
theorem gX6_missed_X6_missedBy : GoodIn wsX6_missed (wsV RX6 185 RX6 yX6_missedBy wsX6_missedBy) := goodIn_app (goodIn_of _ (by decide +kernel)) ggX6_missed_X6_missedBy
theorem dX6_missed_0 : decode cX6_missed 0 = .ok (.aload_n 0, 1) := by decide +kernel
theorem dX6_missed_1 : decode cX6_missed 1 = .ok (.iload_n 1, 1) := by decide +kernel
theorem dX6_missed_2 : decode cX6_missed 2 = .ok (.invokevirtual 147, 3) := by decide +kernel
theorem dX6_missed_5 : decode cX6_missed 5 = .ok (.ifCond .eq 13, 3) := by decide +kernel
theorem dX6_missed_8 : decode cX6_missed 8 = .ok (.aload_n 0, 1) := by decide +kernel
theorem dX6_missed_9 : decode cX6_missed 9 = .ok (.iconst 1, 1) := by decide +kernel
theorem dX6_missed_10 : decode cX6_missed 10 = .ok (.iload_n 1, 1) := by decide +kernel
theorem dX6_missed_11 : decode cX6_missed 11 = .ok (.ishl, 1) := by decide +kernel
theorem dX6_missed_12 : decode cX6_missed 12 = .ok (.invokevirtual 185, 3) := by decide +kernel
theorem dX6_missed_15 : decode cX6_missed 15 = .ok (.goto 5, 3) := by decide +kernel
theorem dX6_missed_18 : decode cX6_missed 18 = .ok (.ldc 61, 2) := by decide +kernel
theorem dX6_missed_20 : decode cX6_missed 20 = .ok (.ireturn, 1) := by decide +kernel
set_option maxRecDepth 20000 in
theorem ggX6_lacks_X6_find : GoodIn wsX6_lacks wsX6_find := goodIn_r _ [6, 7, 8, 12, 13, 14, 15, 16, 17, 18, 19, 20, 21, 22, 23, 24, 25, 26, 27, 28, 29, 30, 31, 32, 33] (by decide +kernel) (by decide +kernel)
set_option maxRecDepth 20000 in
theorem gX6_lacks_X6_find : GoodIn wsX6_lacks (wsV RX6 62 RX6 yX6_find wsX6_find) := goodIn_app (goodIn_of _ (by decide +kernel)) ggX6_lacks_X6_find
set_option maxRecDepth 20000 in
theorem ggX6_lacks_X6_in : GoodIn wsX6_lacks wsX6_in := goodIn_r _ [11] (by decide +kernel) (by decide +kernel)
set_option maxRecDepth 20000 in
theorem gX6_lacks_X6_in : GoodIn wsX6_lacks (va_wsS RX6 51 yX6_in wsX6_in) := goodIn_app (goodIn_of _ (by decide +kernel)) ggX6_lacks_X6_in
theorem dX6_lacks_0 : decode cX6_lacks 0 = .ok (.aload_n 0, 1) := by decide +kernel
theorem dX6_lacks_1 : decode cX6_lacks 1 = .ok (.getfield 13, 3) := by decide +kernel
theorem dX6_lacks_4 : decode cX6_lacks 4 = .ok (.iload_n 1, 1) := by decide +kernel
theorem dX6_lacks_5 : decode cX6_lacks 5 = .ok (.iaload, 1) := by decide +kernel
theorem dX6_lacks_6 : decode cX6_lacks 6 = .ok (.ifCond .ge 9, 3) := by decide +kernel
theorem dX6_lacks_9 : decode cX6_lacks 9 = .ok (.aload_n 0, 1) := by decide +kernel
theorem dX6_lacks_10 : decode cX6_lacks 10 = .ok (.iconst 1, 1) := by decide +kernel
theorem dX6_lacks_11 : decode cX6_lacks 11 = .ok (.invokevirtual 62, 3) := by decide +kernel
theorem dX6_lacks_14 : decode cX6_lacks 14 = .ok (.ireturn, 1) := by decide +kernel
theorem dX6_lacks_15 : decode cX6_lacks 15 = .ok (.iload_n 2, 1) := by decide +kernel
theorem dX6_lacks_16 : decode cX6_lacks 16 = .ok (.i2l, 1) := by decide +kernel
theorem dX6_lacks_17 : decode cX6_lacks 17 = .ok (.lconst 0, 1) := by decide +kernel
theorem dX6_lacks_18 : decode cX6_lacks 18 = .ok (.aload_n 0, 1) := by decide +kernel
theorem dX6_lacks_19 : decode cX6_lacks 19 = .ok (.getfield 13, 3) := by decide +kernel
theorem dX6_lacks_22 : decode cX6_lacks 22 = .ok (.iload_n 1, 1) := by decide +kernel
theorem dX6_lacks_23 : decode cX6_lacks 23 = .ok (.iaload, 1) := by decide +kernel
theorem dX6_lacks_24 : decode cX6_lacks 24 = .ok (.iload_n 3, 1) := by decide +kernel
theorem dX6_lacks_25 : decode cX6_lacks 25 = .ok (.isub, 1) := by decide +kernel
theorem dX6_lacks_26 : decode cX6_lacks 26 = .ok (.i2l, 1) := by decide +kernel
theorem dX6_lacks_27 : decode cX6_lacks 27 = .ok (.invokestatic 51, 3) := by decide +kernel
theorem dX6_lacks_30 : decode cX6_lacks 30 = .ok (.ifCond .eq 7, 3) := by decide +kernel
theorem dX6_lacks_33 : decode cX6_lacks 33 = .ok (.iconst 0, 1) := by decide +kernel
theorem dX6_lacks_34 : decode cX6_lacks 34 = .ok (.goto 8, 3) := by decide +kernel
theorem dX6_lacks_37 : decode cX6_lacks 37 = .ok (.aload_n 0, 1) := by decide +kernel
theorem dX6_lacks_38 : decode cX6_lacks 38 = .ok (.iconst 2, 1) := by decide +kernel
theorem dX6_lacks_39 : decode cX6_lacks 39 = .ok (.invokevirtual 62, 3) := by decide +kernel
theorem dX6_lacks_42 : decode cX6_lacks 42 = .ok (.ireturn, 1) := by decide +kernel
set_option maxRecDepth 20000 in
theorem ggX6_leaves_X6_isRow : GoodIn wsX6_leaves wsX6_isRow := goodIn_r _ [10, 11, 12, 13, 9, 14] (by decide +kernel) (by decide +kernel)
set_option maxRecDepth 20000 in
theorem gX6_leaves_X6_isRow : GoodIn wsX6_leaves (va_wsS RX6 55 yX6_isRow wsX6_isRow) := goodIn_app (goodIn_of _ (by decide +kernel)) ggX6_leaves_X6_isRow
set_option maxRecDepth 20000 in
theorem ggX6_leaves_X6_lacks : GoodIn wsX6_leaves wsX6_lacks := goodIn_r _ [18, 19, 20, 21, 22, 9, 23, 24, 25, 12, 13, 14, 48, 49, 50, 51, 52, 53, 54, 55, 56, 57, 58, 59, 60, 61, 62, 63, 64, 65, 66, 67, 68, 69] (by decide +kernel) (by decide +kernel)
set_option maxRecDepth 20000 in
theorem gX6_leaves_X6_lacks : GoodIn wsX6_leaves (wsV RX6 188 RX6 yX6_lacks wsX6_lacks) := goodIn_app (goodIn_of _ (by decide +kernel)) ggX6_leaves_X6_lacks
set_option maxRecDepth 20000 in
theorem ggX6_leaves_X6_all : GoodIn wsX6_leaves wsX6_all := goodIn_r _ [29, 4, 48, 49, 50, 51, 52, 53, 54, 55, 56, 57, 58, 59, 60, 61, 62, 63, 64, 65, 66, 67, 68, 69] (by decide +kernel) (by decide +kernel)
set_option maxRecDepth 20000 in
theorem gX6_leaves_X6_all : GoodIn wsX6_leaves (wsV RX6 136 RX6 yX6_all wsX6_all) := goodIn_app (goodIn_of _ (by decide +kernel)) ggX6_leaves_X6_all
set_option maxRecDepth 20000 in
theorem ggX6_leaves_X6_has : GoodIn wsX6_leaves wsX6_has := goodIn_r _ [32] (by decide +kernel) (by decide +kernel)
set_option maxRecDepth 20000 in
theorem gX6_leaves_X6_has : GoodIn wsX6_leaves (va_wsS RX6 172 yX6_has wsX6_has) := goodIn_app (goodIn_of _ (by decide +kernel)) ggX6_leaves_X6_has
set_option maxRecDepth 20000 in
theorem ggX6_leaves_X6_worthOf : GoodIn wsX6_leaves wsX6_worthOf := goodIn_r _ [36, 4, 37, 38, 39, 9, 40, 41, 42, 43, 48, 49, 50, 51, 52, 53, 54, 55, 56, 57, 58, 59, 60, 61, 62, 63, 64, 65, 66, 67, 68, 69] (by decide +kernel) (by decide +kernel)
set_option maxRecDepth 20000 in
theorem gX6_leaves_X6_worthOf : GoodIn wsX6_leaves (wsV RX6 163 RX6 yX6_worthOf wsX6_worthOf) := goodIn_app (goodIn_of _ (by decide +kernel)) ggX6_leaves_X6_worthOf
set_option maxRecDepth 20000 in
theorem ggX6_leaves_X6_well : GoodIn wsX6_leaves wsX6_well := goodIn_r _ [47, 24, 48, 49, 50, 51, 52, 53, 54, 55, 56, 57, 58, 59, 60, 61, 62, 63, 64, 65, 66, 67, 68, 69] (by decide +kernel) (by decide +kernel)
set_option maxRecDepth 20000 in
theorem gX6_leaves_X6_well : GoodIn wsX6_leaves (wsV RX6 66 RX6 yX6_well wsX6_well) := goodIn_app (goodIn_of _ (by decide +kernel)) ggX6_leaves_X6_well
theorem dX6_leaves_0 : decode cX6_leaves 0 = .ok (.aload_n 0, 1) := by decide +kernel
theorem dX6_leaves_1 : decode cX6_leaves 1 = .ok (.getfield 129, 3) := by decide +kernel
theorem dX6_leaves_4 : decode cX6_leaves 4 = .ok (.ifCond .ne 6, 3) := by decide +kernel
theorem dX6_leaves_7 : decode cX6_leaves 7 = .ok (.ldc 150, 2) := by decide +kernel
theorem dX6_leaves_9 : decode cX6_leaves 9 = .ok (.ireturn, 1) := by decide +kernel
theorem dX6_leaves_10 : decode cX6_leaves 10 = .ok (.iload_n 1, 1) := by decide +kernel
theorem dX6_leaves_11 : decode cX6_leaves 11 = .ok (.invokestatic 55, 3) := by decide +kernel
theorem dX6_leaves_14 : decode cX6_leaves 14 = .ok (.ifCond .ne 6, 3) := by decide +kernel
theorem dX6_leaves_17 : decode cX6_leaves 17 = .ok (.ldc 61, 2) := by decide +kernel
theorem dX6_leaves_19 : decode cX6_leaves 19 = .ok (.ireturn, 1) := by decide +kernel
theorem dX6_leaves_20 : decode cX6_leaves 20 = .ok (.aload_n 0, 1) := by decide +kernel
theorem dX6_leaves_21 : decode cX6_leaves 21 = .ok (.iload_n 1, 1) := by decide +kernel
theorem dX6_leaves_22 : decode cX6_leaves 22 = .ok (.iload_n 2, 1) := by decide +kernel
theorem dX6_leaves_23 : decode cX6_leaves 23 = .ok (.aload_n 0, 1) := by decide +kernel
theorem dX6_leaves_24 : decode cX6_leaves 24 = .ok (.getfield 19, 3) := by decide +kernel
theorem dX6_leaves_27 : decode cX6_leaves 27 = .ok (.iconst 0, 1) := by decide +kernel
theorem dX6_leaves_28 : decode cX6_leaves 28 = .ok (.iaload, 1) := by decide +kernel
theorem dX6_leaves_29 : decode cX6_leaves 29 = .ok (.invokevirtual 188, 3) := by decide +kernel
theorem dX6_leaves_32 : decode cX6_leaves 32 = .ok (.istore_n 3, 1) := by decide +kernel
theorem dX6_leaves_33 : decode cX6_leaves 33 = .ok (.iload_n 3, 1) := by decide +kernel
theorem dX6_leaves_34 : decode cX6_leaves 34 = .ok (.ifCond .ge 5, 3) := by decide +kernel
theorem dX6_leaves_37 : decode cX6_leaves 37 = .ok (.iload_n 3, 1) := by decide +kernel
theorem dX6_leaves_38 : decode cX6_leaves 38 = .ok (.ireturn, 1) := by decide +kernel
theorem dX6_leaves_39 : decode cX6_leaves 39 = .ok (.ldc 191, 2) := by decide +kernel
theorem dX6_leaves_41 : decode cX6_leaves 41 = .ok (.istore 4, 2) := by decide +kernel
theorem dX6_leaves_43 : decode cX6_leaves 43 = .ok (.aload_n 0, 1) := by decide +kernel
theorem dX6_leaves_44 : decode cX6_leaves 44 = .ok (.invokevirtual 136, 3) := by decide +kernel
theorem dX6_leaves_47 : decode cX6_leaves 47 = .ok (.istore 5, 2) := by decide +kernel
theorem dX6_leaves_49 : decode cX6_leaves 49 = .ok (.iload 5, 2) := by decide +kernel
theorem dX6_leaves_51 : decode cX6_leaves 51 = .ok (.ifCond .le 88, 3) := by decide +kernel
theorem dX6_leaves_54 : decode cX6_leaves 54 = .ok (.lconst 0, 1) := by decide +kernel
theorem dX6_leaves_55 : decode cX6_leaves 55 = .ok (.lstore 6, 2) := by decide +kernel
theorem dX6_leaves_57 : decode cX6_leaves 57 = .ok (.iconst 0, 1) := by decide +kernel
theorem dX6_leaves_58 : decode cX6_leaves 58 = .ok (.istore 8, 2) := by decide +kernel
theorem dX6_leaves_60 : decode cX6_leaves 60 = .ok (.iload 8, 2) := by decide +kernel
theorem dX6_leaves_62 : decode cX6_leaves 62 = .ok (.aload_n 0, 1) := by decide +kernel
theorem dX6_leaves_63 : decode cX6_leaves 63 = .ok (.getfield 19, 3) := by decide +kernel
theorem dX6_leaves_66 : decode cX6_leaves 66 = .ok (.iconst 0, 1) := by decide +kernel
theorem dX6_leaves_67 : decode cX6_leaves 67 = .ok (.iaload, 1) := by decide +kernel
theorem dX6_leaves_68 : decode cX6_leaves 68 = .ok (.if_icmp .ge 43, 3) := by decide +kernel
theorem dX6_leaves_71 : decode cX6_leaves 71 = .ok (.lload 6, 2) := by decide +kernel
theorem dX6_leaves_73 : decode cX6_leaves 73 = .ok (.iload 5, 2) := by decide +kernel
theorem dX6_leaves_75 : decode cX6_leaves 75 = .ok (.iload 8, 2) := by decide +kernel
theorem dX6_leaves_77 : decode cX6_leaves 77 = .ok (.invokestatic 172, 3) := by decide +kernel
theorem dX6_leaves_80 : decode cX6_leaves 80 = .ok (.ifCond .eq 21, 3) := by decide +kernel
theorem dX6_leaves_83 : decode cX6_leaves 83 = .ok (.aload_n 0, 1) := by decide +kernel
theorem dX6_leaves_84 : decode cX6_leaves 84 = .ok (.getfield 16, 3) := by decide +kernel
theorem dX6_leaves_87 : decode cX6_leaves 87 = .ok (.bipush 40, 2) := by decide +kernel
theorem dX6_leaves_89 : decode cX6_leaves 89 = .ok (.iload_n 1, 1) := by decide +kernel
theorem dX6_leaves_90 : decode cX6_leaves 90 = .ok (.imul, 1) := by decide +kernel
theorem dX6_leaves_91 : decode cX6_leaves 91 = .ok (.iload_n 2, 1) := by decide +kernel
theorem dX6_leaves_92 : decode cX6_leaves 92 = .ok (.iadd, 1) := by decide +kernel
theorem dX6_leaves_93 : decode cX6_leaves 93 = .ok (.iload 8, 2) := by decide +kernel
theorem dX6_leaves_95 : decode cX6_leaves 95 = .ok (.iadd, 1) := by decide +kernel
theorem dX6_leaves_96 : decode cX6_leaves 96 = .ok (.iaload, 1) := by decide +kernel
theorem dX6_leaves_97 : decode cX6_leaves 97 = .ok (.i2l, 1) := by decide +kernel
theorem dX6_leaves_98 : decode cX6_leaves 98 = .ok (.goto 4, 3) := by decide +kernel
theorem dX6_leaves_101 : decode cX6_leaves 101 = .ok (.lconst 0, 1) := by decide +kernel
theorem dX6_leaves_102 : decode cX6_leaves 102 = .ok (.ladd, 1) := by decide +kernel
theorem dX6_leaves_103 : decode cX6_leaves 103 = .ok (.lstore 6, 2) := by decide +kernel
theorem dX6_leaves_105 : decode cX6_leaves 105 = .ok (.iinc 8 1, 3) := by decide +kernel
theorem dX6_leaves_108 : decode cX6_leaves 108 = .ok (.goto (-48), 3) := by decide +kernel
theorem dX6_leaves_111 : decode cX6_leaves 111 = .ok (.aload_n 0, 1) := by decide +kernel
theorem dX6_leaves_112 : decode cX6_leaves 112 = .ok (.iload 5, 2) := by decide +kernel
theorem dX6_leaves_114 : decode cX6_leaves 114 = .ok (.invokevirtual 163, 3) := by decide +kernel
theorem dX6_leaves_117 : decode cX6_leaves 117 = .ok (.i2l, 1) := by decide +kernel
theorem dX6_leaves_118 : decode cX6_leaves 118 = .ok (.lload 6, 2) := by decide +kernel
theorem dX6_leaves_120 : decode cX6_leaves 120 = .ok (.lcmp, 1) := by decide +kernel
theorem dX6_leaves_121 : decode cX6_leaves 121 = .ok (.ifCond .le 8, 3) := by decide +kernel
theorem dX6_leaves_124 : decode cX6_leaves 124 = .ok (.iload 5, 2) := by decide +kernel
theorem dX6_leaves_126 : decode cX6_leaves 126 = .ok (.goto 5, 3) := by decide +kernel
theorem dX6_leaves_129 : decode cX6_leaves 129 = .ok (.iload 4, 2) := by decide +kernel
theorem dX6_leaves_131 : decode cX6_leaves 131 = .ok (.istore 4, 2) := by decide +kernel
theorem dX6_leaves_133 : decode cX6_leaves 133 = .ok (.iinc 5 (-1), 3) := by decide +kernel
theorem dX6_leaves_136 : decode cX6_leaves 136 = .ok (.goto (-87), 3) := by decide +kernel
theorem dX6_leaves_139 : decode cX6_leaves 139 = .ok (.aload_n 0, 1) := by decide +kernel
theorem dX6_leaves_140 : decode cX6_leaves 140 = .ok (.iload 4, 2) := by decide +kernel
theorem dX6_leaves_142 : decode cX6_leaves 142 = .ok (.invokevirtual 66, 3) := by decide +kernel
theorem dX6_leaves_145 : decode cX6_leaves 145 = .ok (.ireturn, 1) := by decide +kernel
set_option maxRecDepth 20000 in
theorem ggX6_together_X6_in : GoodIn wsX6_together wsX6_in := goodIn_r _ [9] (by decide +kernel) (by decide +kernel)
set_option maxRecDepth 20000 in
theorem gX6_together_X6_in : GoodIn wsX6_together (va_wsS RX6 51 yX6_in wsX6_in) := goodIn_app (goodIn_of _ (by decide +kernel)) ggX6_together_X6_in
set_option maxRecDepth 20000 in
theorem ggX6_together_X6_missedBy : GoodIn wsX6_together wsX6_missedBy := goodIn_r _ [13, 14, 15, 16, 8, 17, 5, 18, 19, 20, 21, 22, 23, 24, 25, 26, 27, 28, 29, 30, 31, 32, 33, 34, 35, 36, 37, 38, 39, 40, 41, 42, 43, 44, 45, 46, 47, 48, 49, 50] (by decide +kernel) (by decide +kernel)
set_option maxRecDepth 20000 in
theorem gX6_together_X6_missedBy : GoodIn wsX6_together (wsV RX6 185 RX6 yX6_missedBy wsX6_missedBy) := goodIn_app (goodIn_of _ (by decide +kernel)) ggX6_together_X6_missedBy
theorem dX6_together_0 : decode cX6_together 0 = .ok (.aload_n 0, 1) := by decide +kernel
theorem dX6_together_1 : decode cX6_together 1 = .ok (.getfield 129, 3) := by decide +kernel
theorem dX6_together_4 : decode cX6_together 4 = .ok (.ifCond .ne 6, 3) := by decide +kernel
theorem dX6_together_7 : decode cX6_together 7 = .ok (.ldc 150, 2) := by decide +kernel
theorem dX6_together_9 : decode cX6_together 9 = .ok (.ireturn, 1) := by decide +kernel
theorem dX6_together_10 : decode cX6_together 10 = .ok (.iload_n 1, 1) := by decide +kernel
theorem dX6_together_11 : decode cX6_together 11 = .ok (.i2l, 1) := by decide +kernel
theorem dX6_together_12 : decode cX6_together 12 = .ok (.lconst 0, 1) := by decide +kernel
theorem dX6_together_13 : decode cX6_together 13 = .ok (.lconst 1, 1) := by decide +kernel
theorem dX6_together_14 : decode cX6_together 14 = .ok (.invokestatic 51, 3) := by decide +kernel
theorem dX6_together_17 : decode cX6_together 17 = .ok (.ifCond .ne 6, 3) := by decide +kernel
theorem dX6_together_20 : decode cX6_together 20 = .ok (.ldc 61, 2) := by decide +kernel
theorem dX6_together_22 : decode cX6_together 22 = .ok (.ireturn, 1) := by decide +kernel
theorem dX6_together_23 : decode cX6_together 23 = .ok (.iconst 0, 1) := by decide +kernel
theorem dX6_together_24 : decode cX6_together 24 = .ok (.istore_n 2, 1) := by decide +kernel
theorem dX6_together_25 : decode cX6_together 25 = .ok (.ldc 191, 2) := by decide +kernel
theorem dX6_together_27 : decode cX6_together 27 = .ok (.istore_n 3, 1) := by decide +kernel
theorem dX6_together_28 : decode cX6_together 28 = .ok (.aload_n 0, 1) := by decide +kernel
theorem dX6_together_29 : decode cX6_together 29 = .ok (.getfield 19, 3) := by decide +kernel
theorem dX6_together_32 : decode cX6_together 32 = .ok (.iconst 0, 1) := by decide +kernel
theorem dX6_together_33 : decode cX6_together 33 = .ok (.iaload, 1) := by decide +kernel
theorem dX6_together_34 : decode cX6_together 34 = .ok (.iconst 1, 1) := by decide +kernel
theorem dX6_together_35 : decode cX6_together 35 = .ok (.isub, 1) := by decide +kernel
theorem dX6_together_36 : decode cX6_together 36 = .ok (.istore 4, 2) := by decide +kernel
theorem dX6_together_38 : decode cX6_together 38 = .ok (.iload 4, 2) := by decide +kernel
theorem dX6_together_40 : decode cX6_together 40 = .ok (.ifCond .lt 108, 3) := by decide +kernel
theorem dX6_together_43 : decode cX6_together 43 = .ok (.aload_n 0, 1) := by decide +kernel
theorem dX6_together_44 : decode cX6_together 44 = .ok (.getfield 19, 3) := by decide +kernel
theorem dX6_together_47 : decode cX6_together 47 = .ok (.iconst 0, 1) := by decide +kernel
theorem dX6_together_48 : decode cX6_together 48 = .ok (.iaload, 1) := by decide +kernel
theorem dX6_together_49 : decode cX6_together 49 = .ok (.iconst 1, 1) := by decide +kernel
theorem dX6_together_50 : decode cX6_together 50 = .ok (.isub, 1) := by decide +kernel
theorem dX6_together_51 : decode cX6_together 51 = .ok (.istore 5, 2) := by decide +kernel
theorem dX6_together_53 : decode cX6_together 53 = .ok (.iload 5, 2) := by decide +kernel
theorem dX6_together_55 : decode cX6_together 55 = .ok (.iload 4, 2) := by decide +kernel
theorem dX6_together_57 : decode cX6_together 57 = .ok (.if_icmp .le 85, 3) := by decide +kernel
theorem dX6_together_60 : decode cX6_together 60 = .ok (.aload_n 0, 1) := by decide +kernel
theorem dX6_together_61 : decode cX6_together 61 = .ok (.iconst 1, 1) := by decide +kernel
theorem dX6_together_62 : decode cX6_together 62 = .ok (.iload 4, 2) := by decide +kernel
theorem dX6_together_64 : decode cX6_together 64 = .ok (.ishl, 1) := by decide +kernel
theorem dX6_together_65 : decode cX6_together 65 = .ok (.invokevirtual 185, 3) := by decide +kernel
theorem dX6_together_68 : decode cX6_together 68 = .ok (.ifCond .ne 34, 3) := by decide +kernel
theorem dX6_together_71 : decode cX6_together 71 = .ok (.aload_n 0, 1) := by decide +kernel
theorem dX6_together_72 : decode cX6_together 72 = .ok (.iconst 1, 1) := by decide +kernel
theorem dX6_together_73 : decode cX6_together 73 = .ok (.iload 5, 2) := by decide +kernel
theorem dX6_together_75 : decode cX6_together 75 = .ok (.ishl, 1) := by decide +kernel
theorem dX6_together_76 : decode cX6_together 76 = .ok (.invokevirtual 185, 3) := by decide +kernel
theorem dX6_together_79 : decode cX6_together 79 = .ok (.ifCond .ne 23, 3) := by decide +kernel
theorem dX6_together_82 : decode cX6_together 82 = .ok (.aload_n 0, 1) := by decide +kernel
theorem dX6_together_83 : decode cX6_together 83 = .ok (.iconst 1, 1) := by decide +kernel
theorem dX6_together_84 : decode cX6_together 84 = .ok (.iload 4, 2) := by decide +kernel
theorem dX6_together_86 : decode cX6_together 86 = .ok (.ishl, 1) := by decide +kernel
theorem dX6_together_87 : decode cX6_together 87 = .ok (.iconst 1, 1) := by decide +kernel
theorem dX6_together_88 : decode cX6_together 88 = .ok (.iload 5, 2) := by decide +kernel
theorem dX6_together_90 : decode cX6_together 90 = .ok (.ishl, 1) := by decide +kernel
theorem dX6_together_91 : decode cX6_together 91 = .ok (.ior, 1) := by decide +kernel
theorem dX6_together_92 : decode cX6_together 92 = .ok (.invokevirtual 185, 3) := by decide +kernel
theorem dX6_together_95 : decode cX6_together 95 = .ok (.ifCond .le 7, 3) := by decide +kernel
theorem dX6_together_98 : decode cX6_together 98 = .ok (.iconst 1, 1) := by decide +kernel
theorem dX6_together_99 : decode cX6_together 99 = .ok (.goto 4, 3) := by decide +kernel
theorem dX6_together_102 : decode cX6_together 102 = .ok (.iconst 0, 1) := by decide +kernel
theorem dX6_together_103 : decode cX6_together 103 = .ok (.istore 6, 2) := by decide +kernel
theorem dX6_together_105 : decode cX6_together 105 = .ok (.iload_n 2, 1) := by decide +kernel
theorem dX6_together_106 : decode cX6_together 106 = .ok (.iload 6, 2) := by decide +kernel
theorem dX6_together_108 : decode cX6_together 108 = .ok (.ifCond .eq 7, 3) := by decide +kernel
theorem dX6_together_111 : decode cX6_together 111 = .ok (.iconst 1, 1) := by decide +kernel
theorem dX6_together_112 : decode cX6_together 112 = .ok (.goto 4, 3) := by decide +kernel
theorem dX6_together_115 : decode cX6_together 115 = .ok (.iconst 0, 1) := by decide +kernel
theorem dX6_together_116 : decode cX6_together 116 = .ok (.iadd, 1) := by decide +kernel
theorem dX6_together_117 : decode cX6_together 117 = .ok (.istore_n 2, 1) := by decide +kernel
theorem dX6_together_118 : decode cX6_together 118 = .ok (.iload 6, 2) := by decide +kernel
theorem dX6_together_120 : decode cX6_together 120 = .ok (.ifCond .eq 14, 3) := by decide +kernel
theorem dX6_together_123 : decode cX6_together 123 = .ok (.bipush 10, 2) := by decide +kernel
theorem dX6_together_125 : decode cX6_together 125 = .ok (.iload 4, 2) := by decide +kernel
theorem dX6_together_127 : decode cX6_together 127 = .ok (.imul, 1) := by decide +kernel
theorem dX6_together_128 : decode cX6_together 128 = .ok (.iload 5, 2) := by decide +kernel
theorem dX6_together_130 : decode cX6_together 130 = .ok (.iadd, 1) := by decide +kernel
theorem dX6_together_131 : decode cX6_together 131 = .ok (.goto 4, 3) := by decide +kernel
theorem dX6_together_134 : decode cX6_together 134 = .ok (.iload_n 3, 1) := by decide +kernel
theorem dX6_together_135 : decode cX6_together 135 = .ok (.istore_n 3, 1) := by decide +kernel
theorem dX6_together_136 : decode cX6_together 136 = .ok (.iinc 5 (-1), 3) := by decide +kernel
theorem dX6_together_139 : decode cX6_together 139 = .ok (.goto (-86), 3) := by decide +kernel
theorem dX6_together_142 : decode cX6_together 142 = .ok (.iinc 4 (-1), 3) := by decide +kernel
theorem dX6_together_145 : decode cX6_together 145 = .ok (.goto (-107), 3) := by decide +kernel
theorem dX6_together_148 : decode cX6_together 148 = .ok (.iload_n 1, 1) := by decide +kernel
theorem dX6_together_149 : decode cX6_together 149 = .ok (.ifCond .ne 7, 3) := by decide +kernel
theorem dX6_together_152 : decode cX6_together 152 = .ok (.iload_n 2, 1) := by decide +kernel
theorem dX6_together_153 : decode cX6_together 153 = .ok (.goto 4, 3) := by decide +kernel
theorem dX6_together_156 : decode cX6_together 156 = .ok (.iload_n 3, 1) := by decide +kernel
theorem dX6_together_157 : decode cX6_together 157 = .ok (.ireturn, 1) := by decide +kernel
set_option maxRecDepth 20000 in
theorem ggX6_isMuch_X6_in : GoodIn wsX6_isMuch wsX6_in := goodIn_r _ [6] (by decide +kernel) (by decide +kernel)
set_option maxRecDepth 20000 in
theorem gX6_isMuch_X6_in : GoodIn wsX6_isMuch (va_wsS RX6 51 yX6_in wsX6_in) := goodIn_app (goodIn_of _ (by decide +kernel)) ggX6_isMuch_X6_in
theorem dX6_isMuch_0 : decode cX6_isMuch 0 = .ok (.iload_n 0, 1) := by decide +kernel
theorem dX6_isMuch_1 : decode cX6_isMuch 1 = .ok (.i2l, 1) := by decide +kernel
theorem dX6_isMuch_2 : decode cX6_isMuch 2 = .ok (.ldc2_w 192, 3) := by decide +kernel
theorem dX6_isMuch_5 : decode cX6_isMuch 5 = .ok (.ldc2_w 194, 3) := by decide +kernel
theorem dX6_isMuch_8 : decode cX6_isMuch 8 = .ok (.invokestatic 51, 3) := by decide +kernel
theorem dX6_isMuch_11 : decode cX6_isMuch 11 = .ok (.ifCond .eq 17, 3) := by decide +kernel
theorem dX6_isMuch_14 : decode cX6_isMuch 14 = .ok (.iload_n 1, 1) := by decide +kernel
theorem dX6_isMuch_15 : decode cX6_isMuch 15 = .ok (.i2l, 1) := by decide +kernel
theorem dX6_isMuch_16 : decode cX6_isMuch 16 = .ok (.lconst 0, 1) := by decide +kernel
theorem dX6_isMuch_17 : decode cX6_isMuch 17 = .ok (.lconst 1, 1) := by decide +kernel
theorem dX6_isMuch_18 : decode cX6_isMuch 18 = .ok (.invokestatic 51, 3) := by decide +kernel
theorem dX6_isMuch_21 : decode cX6_isMuch 21 = .ok (.ifCond .eq 7, 3) := by decide +kernel
theorem dX6_isMuch_24 : decode cX6_isMuch 24 = .ok (.iconst 1, 1) := by decide +kernel
theorem dX6_isMuch_25 : decode cX6_isMuch 25 = .ok (.goto 4, 3) := by decide +kernel
theorem dX6_isMuch_28 : decode cX6_isMuch 28 = .ok (.iconst 0, 1) := by decide +kernel
theorem dX6_isMuch_29 : decode cX6_isMuch 29 = .ok (.ireturn, 1) := by decide +kernel
set_option maxRecDepth 20000 in
theorem ggX6_whoAway_X6_isMuch : GoodIn wsX6_whoAway wsX6_isMuch := goodIn_r _ [8, 9, 10, 11, 12, 7, 13] (by decide +kernel) (by decide +kernel)
set_option maxRecDepth 20000 in
theorem gX6_whoAway_X6_isMuch : GoodIn wsX6_whoAway (va_wsS RX6 196 yX6_isMuch wsX6_isMuch) := goodIn_app (goodIn_of _ (by decide +kernel)) ggX6_whoAway_X6_isMuch
set_option maxRecDepth 20000 in
theorem ggX6_whoAway_X6_all : GoodIn wsX6_whoAway wsX6_all := goodIn_r _ [17, 18, 30, 31, 32, 33, 34, 35, 36, 37, 38, 39, 40, 41, 42, 43, 44, 45, 46, 47, 48, 49, 50, 51] (by decide +kernel) (by decide +kernel)
set_option maxRecDepth 20000 in
theorem gX6_whoAway_X6_all : GoodIn wsX6_whoAway (wsV RX6 136 RX6 yX6_all wsX6_all) := goodIn_app (goodIn_of _ (by decide +kernel)) ggX6_whoAway_X6_all
set_option maxRecDepth 20000 in
theorem ggX6_whoAway_X6_worthOf : GoodIn wsX6_whoAway wsX6_worthOf := goodIn_r _ [22, 18, 23, 24, 25, 7, 26, 27, 28, 29, 30, 31, 32, 33, 34, 35, 36, 37, 38, 39, 40, 41, 42, 43, 44, 45, 46, 47, 48, 49, 50, 51] (by decide +kernel) (by decide +kernel)
set_option maxRecDepth 20000 in
theorem gX6_whoAway_X6_worthOf : GoodIn wsX6_whoAway (wsV RX6 163 RX6 yX6_worthOf wsX6_worthOf) := goodIn_app (goodIn_of _ (by decide +kernel)) ggX6_whoAway_X6_worthOf
theorem dX6_whoAway_0 : decode cX6_whoAway 0 = .ok (.aload_n 0, 1) := by decide +kernel
theorem dX6_whoAway_1 : decode cX6_whoAway 1 = .ok (.getfield 129, 3) := by decide +kernel
theorem dX6_whoAway_4 : decode cX6_whoAway 4 = .ok (.ifCond .ne 6, 3) := by decide +kernel
theorem dX6_whoAway_7 : decode cX6_whoAway 7 = .ok (.ldc 150, 2) := by decide +kernel
theorem dX6_whoAway_9 : decode cX6_whoAway 9 = .ok (.ireturn, 1) := by decide +kernel
theorem dX6_whoAway_10 : decode cX6_whoAway 10 = .ok (.iload_n 1, 1) := by decide +kernel
theorem dX6_whoAway_11 : decode cX6_whoAway 11 = .ok (.iload_n 2, 1) := by decide +kernel
theorem dX6_whoAway_12 : decode cX6_whoAway 12 = .ok (.invokestatic 196, 3) := by decide +kernel
theorem dX6_whoAway_15 : decode cX6_whoAway 15 = .ok (.ifCond .ne 6, 3) := by decide +kernel
theorem dX6_whoAway_18 : decode cX6_whoAway 18 = .ok (.ldc 61, 2) := by decide +kernel
theorem dX6_whoAway_20 : decode cX6_whoAway 20 = .ok (.ireturn, 1) := by decide +kernel
theorem dX6_whoAway_21 : decode cX6_whoAway 21 = .ok (.iconst 0, 1) := by decide +kernel
theorem dX6_whoAway_22 : decode cX6_whoAway 22 = .ok (.istore_n 3, 1) := by decide +kernel
theorem dX6_whoAway_23 : decode cX6_whoAway 23 = .ok (.ldc 191, 2) := by decide +kernel
theorem dX6_whoAway_25 : decode cX6_whoAway 25 = .ok (.istore 4, 2) := by decide +kernel
theorem dX6_whoAway_27 : decode cX6_whoAway 27 = .ok (.aload_n 0, 1) := by decide +kernel
theorem dX6_whoAway_28 : decode cX6_whoAway 28 = .ok (.invokevirtual 136, 3) := by decide +kernel
theorem dX6_whoAway_31 : decode cX6_whoAway 31 = .ok (.istore 5, 2) := by decide +kernel
theorem dX6_whoAway_33 : decode cX6_whoAway 33 = .ok (.iload 5, 2) := by decide +kernel
theorem dX6_whoAway_35 : decode cX6_whoAway 35 = .ok (.ifCond .lt 60, 3) := by decide +kernel
theorem dX6_whoAway_38 : decode cX6_whoAway 38 = .ok (.aload_n 0, 1) := by decide +kernel
theorem dX6_whoAway_39 : decode cX6_whoAway 39 = .ok (.aload_n 0, 1) := by decide +kernel
theorem dX6_whoAway_40 : decode cX6_whoAway 40 = .ok (.invokevirtual 136, 3) := by decide +kernel
theorem dX6_whoAway_43 : decode cX6_whoAway 43 = .ok (.iload 5, 2) := by decide +kernel
theorem dX6_whoAway_45 : decode cX6_whoAway 45 = .ok (.iconst (-1), 1) := by decide +kernel
theorem dX6_whoAway_46 : decode cX6_whoAway 46 = .ok (.ixor, 1) := by decide +kernel
theorem dX6_whoAway_47 : decode cX6_whoAway 47 = .ok (.iand, 1) := by decide +kernel
theorem dX6_whoAway_48 : decode cX6_whoAway 48 = .ok (.invokevirtual 163, 3) := by decide +kernel
theorem dX6_whoAway_51 : decode cX6_whoAway 51 = .ok (.iload_n 1, 1) := by decide +kernel
theorem dX6_whoAway_52 : decode cX6_whoAway 52 = .ok (.if_icmp .ne 7, 3) := by decide +kernel
theorem dX6_whoAway_55 : decode cX6_whoAway 55 = .ok (.iconst 1, 1) := by decide +kernel
theorem dX6_whoAway_56 : decode cX6_whoAway 56 = .ok (.goto 4, 3) := by decide +kernel
theorem dX6_whoAway_59 : decode cX6_whoAway 59 = .ok (.iconst 0, 1) := by decide +kernel
theorem dX6_whoAway_60 : decode cX6_whoAway 60 = .ok (.istore 6, 2) := by decide +kernel
theorem dX6_whoAway_62 : decode cX6_whoAway 62 = .ok (.iload_n 3, 1) := by decide +kernel
theorem dX6_whoAway_63 : decode cX6_whoAway 63 = .ok (.iload 6, 2) := by decide +kernel
theorem dX6_whoAway_65 : decode cX6_whoAway 65 = .ok (.ifCond .eq 7, 3) := by decide +kernel
theorem dX6_whoAway_68 : decode cX6_whoAway 68 = .ok (.iconst 1, 1) := by decide +kernel
theorem dX6_whoAway_69 : decode cX6_whoAway 69 = .ok (.goto 4, 3) := by decide +kernel
theorem dX6_whoAway_72 : decode cX6_whoAway 72 = .ok (.iconst 0, 1) := by decide +kernel
theorem dX6_whoAway_73 : decode cX6_whoAway 73 = .ok (.iadd, 1) := by decide +kernel
theorem dX6_whoAway_74 : decode cX6_whoAway 74 = .ok (.istore_n 3, 1) := by decide +kernel
theorem dX6_whoAway_75 : decode cX6_whoAway 75 = .ok (.iload 6, 2) := by decide +kernel
theorem dX6_whoAway_77 : decode cX6_whoAway 77 = .ok (.ifCond .eq 8, 3) := by decide +kernel
theorem dX6_whoAway_80 : decode cX6_whoAway 80 = .ok (.iload 5, 2) := by decide +kernel
theorem dX6_whoAway_82 : decode cX6_whoAway 82 = .ok (.goto 5, 3) := by decide +kernel
theorem dX6_whoAway_85 : decode cX6_whoAway 85 = .ok (.iload 4, 2) := by decide +kernel
theorem dX6_whoAway_87 : decode cX6_whoAway 87 = .ok (.istore 4, 2) := by decide +kernel
theorem dX6_whoAway_89 : decode cX6_whoAway 89 = .ok (.iinc 5 (-1), 3) := by decide +kernel
theorem dX6_whoAway_92 : decode cX6_whoAway 92 = .ok (.goto (-59), 3) := by decide +kernel
theorem dX6_whoAway_95 : decode cX6_whoAway 95 = .ok (.iload_n 2, 1) := by decide +kernel
theorem dX6_whoAway_96 : decode cX6_whoAway 96 = .ok (.ifCond .ne 7, 3) := by decide +kernel
theorem dX6_whoAway_99 : decode cX6_whoAway 99 = .ok (.iload_n 3, 1) := by decide +kernel
theorem dX6_whoAway_100 : decode cX6_whoAway 100 = .ok (.goto 5, 3) := by decide +kernel
theorem dX6_whoAway_103 : decode cX6_whoAway 103 = .ok (.iload 4, 2) := by decide +kernel
theorem dX6_whoAway_105 : decode cX6_whoAway 105 = .ok (.ireturn, 1) := by decide +kernel
set_option maxRecDepth 20000 in
theorem ggX6_enough_X6_isMuch : GoodIn wsX6_enough wsX6_isMuch := goodIn_r _ [8, 9, 10, 11, 12, 7, 13] (by decide +kernel) (by decide +kernel)
set_option maxRecDepth 20000 in
theorem gX6_enough_X6_isMuch : GoodIn wsX6_enough (va_wsS RX6 196 yX6_isMuch wsX6_isMuch) := goodIn_app (goodIn_of _ (by decide +kernel)) ggX6_enough_X6_isMuch
set_option maxRecDepth 20000 in
theorem ggX6_enough_X6_all : GoodIn wsX6_enough wsX6_all := goodIn_r _ [17, 18, 30, 31, 32, 33, 34, 35, 36, 37, 38, 39, 40, 41, 42, 43, 44, 45, 46, 47, 48, 49, 50, 51] (by decide +kernel) (by decide +kernel)
set_option maxRecDepth 20000 in
theorem gX6_enough_X6_all : GoodIn wsX6_enough (wsV RX6 136 RX6 yX6_all wsX6_all) := goodIn_app (goodIn_of _ (by decide +kernel)) ggX6_enough_X6_all
set_option maxRecDepth 20000 in
theorem ggX6_enough_X6_ones : GoodIn wsX6_enough wsX6_ones := goodIn_r _ [21] (by decide +kernel) (by decide +kernel)
set_option maxRecDepth 20000 in
theorem gX6_enough_X6_ones : GoodIn wsX6_enough (va_wsS RX6 140 yX6_ones wsX6_ones) := goodIn_app (goodIn_of _ (by decide +kernel)) ggX6_enough_X6_ones
set_option maxRecDepth 20000 in
theorem ggX6_enough_X6_worthOf : GoodIn wsX6_enough wsX6_worthOf := goodIn_r _ [25, 18, 26, 27, 28, 7, 29, 19, 20, 21, 30, 31, 32, 33, 34, 35, 36, 37, 38, 39, 40, 41, 42, 43, 44, 45, 46, 47, 48, 49, 50, 51] (by decide +kernel) (by decide +kernel)
set_option maxRecDepth 20000 in
theorem gX6_enough_X6_worthOf : GoodIn wsX6_enough (wsV RX6 163 RX6 yX6_worthOf wsX6_worthOf) := goodIn_app (goodIn_of _ (by decide +kernel)) ggX6_enough_X6_worthOf
theorem dX6_enough_0 : decode cX6_enough 0 = .ok (.aload_n 0, 1) := by decide +kernel
theorem dX6_enough_1 : decode cX6_enough 1 = .ok (.getfield 129, 3) := by decide +kernel
theorem dX6_enough_4 : decode cX6_enough 4 = .ok (.ifCond .ne 6, 3) := by decide +kernel
theorem dX6_enough_7 : decode cX6_enough 7 = .ok (.ldc 150, 2) := by decide +kernel
theorem dX6_enough_9 : decode cX6_enough 9 = .ok (.ireturn, 1) := by decide +kernel
theorem dX6_enough_10 : decode cX6_enough 10 = .ok (.iload_n 1, 1) := by decide +kernel
theorem dX6_enough_11 : decode cX6_enough 11 = .ok (.iload_n 2, 1) := by decide +kernel
theorem dX6_enough_12 : decode cX6_enough 12 = .ok (.invokestatic 196, 3) := by decide +kernel
theorem dX6_enough_15 : decode cX6_enough 15 = .ok (.ifCond .ne 6, 3) := by decide +kernel
theorem dX6_enough_18 : decode cX6_enough 18 = .ok (.ldc 61, 2) := by decide +kernel
theorem dX6_enough_20 : decode cX6_enough 20 = .ok (.ireturn, 1) := by decide +kernel
theorem dX6_enough_21 : decode cX6_enough 21 = .ok (.iconst (-1), 1) := by decide +kernel
theorem dX6_enough_22 : decode cX6_enough 22 = .ok (.istore_n 3, 1) := by decide +kernel
theorem dX6_enough_23 : decode cX6_enough 23 = .ok (.iconst 0, 1) := by decide +kernel
theorem dX6_enough_24 : decode cX6_enough 24 = .ok (.istore 4, 2) := by decide +kernel
theorem dX6_enough_26 : decode cX6_enough 26 = .ok (.iload 4, 2) := by decide +kernel
theorem dX6_enough_28 : decode cX6_enough 28 = .ok (.aload_n 0, 1) := by decide +kernel
theorem dX6_enough_29 : decode cX6_enough 29 = .ok (.invokevirtual 136, 3) := by decide +kernel
theorem dX6_enough_32 : decode cX6_enough 32 = .ok (.if_icmp .gt 54, 3) := by decide +kernel
theorem dX6_enough_35 : decode cX6_enough 35 = .ok (.iload_n 3, 1) := by decide +kernel
theorem dX6_enough_36 : decode cX6_enough 36 = .ok (.ifCond .lt 15, 3) := by decide +kernel
theorem dX6_enough_39 : decode cX6_enough 39 = .ok (.iload 4, 2) := by decide +kernel
theorem dX6_enough_41 : decode cX6_enough 41 = .ok (.invokestatic 140, 3) := by decide +kernel
theorem dX6_enough_44 : decode cX6_enough 44 = .ok (.iload_n 3, 1) := by decide +kernel
theorem dX6_enough_45 : decode cX6_enough 45 = .ok (.invokestatic 140, 3) := by decide +kernel
theorem dX6_enough_48 : decode cX6_enough 48 = .ok (.if_icmp .ge 7, 3) := by decide +kernel
theorem dX6_enough_51 : decode cX6_enough 51 = .ok (.iconst 1, 1) := by decide +kernel
theorem dX6_enough_52 : decode cX6_enough 52 = .ok (.goto 4, 3) := by decide +kernel
theorem dX6_enough_55 : decode cX6_enough 55 = .ok (.iconst 0, 1) := by decide +kernel
theorem dX6_enough_56 : decode cX6_enough 56 = .ok (.istore 5, 2) := by decide +kernel
theorem dX6_enough_58 : decode cX6_enough 58 = .ok (.iload 5, 2) := by decide +kernel
theorem dX6_enough_60 : decode cX6_enough 60 = .ok (.ifCond .eq 18, 3) := by decide +kernel
theorem dX6_enough_63 : decode cX6_enough 63 = .ok (.aload_n 0, 1) := by decide +kernel
theorem dX6_enough_64 : decode cX6_enough 64 = .ok (.iload 4, 2) := by decide +kernel
theorem dX6_enough_66 : decode cX6_enough 66 = .ok (.invokevirtual 163, 3) := by decide +kernel
theorem dX6_enough_69 : decode cX6_enough 69 = .ok (.iload_n 1, 1) := by decide +kernel
theorem dX6_enough_70 : decode cX6_enough 70 = .ok (.if_icmp .lt 8, 3) := by decide +kernel
theorem dX6_enough_73 : decode cX6_enough 73 = .ok (.iload 4, 2) := by decide +kernel
theorem dX6_enough_75 : decode cX6_enough 75 = .ok (.goto 4, 3) := by decide +kernel
theorem dX6_enough_78 : decode cX6_enough 78 = .ok (.iload_n 3, 1) := by decide +kernel
theorem dX6_enough_79 : decode cX6_enough 79 = .ok (.istore_n 3, 1) := by decide +kernel
theorem dX6_enough_80 : decode cX6_enough 80 = .ok (.iinc 4 1, 3) := by decide +kernel
theorem dX6_enough_83 : decode cX6_enough 83 = .ok (.goto (-57), 3) := by decide +kernel
theorem dX6_enough_86 : decode cX6_enough 86 = .ok (.iload_n 3, 1) := by decide +kernel
theorem dX6_enough_87 : decode cX6_enough 87 = .ok (.ifCond .ge 8, 3) := by decide +kernel
theorem dX6_enough_90 : decode cX6_enough 90 = .ok (.ldc 191, 2) := by decide +kernel
theorem dX6_enough_92 : decode cX6_enough 92 = .ok (.goto 15, 3) := by decide +kernel
theorem dX6_enough_95 : decode cX6_enough 95 = .ok (.iload_n 2, 1) := by decide +kernel
theorem dX6_enough_96 : decode cX6_enough 96 = .ok (.ifCond .ne 10, 3) := by decide +kernel
theorem dX6_enough_99 : decode cX6_enough 99 = .ok (.iload_n 3, 1) := by decide +kernel
theorem dX6_enough_100 : decode cX6_enough 100 = .ok (.invokestatic 140, 3) := by decide +kernel
theorem dX6_enough_103 : decode cX6_enough 103 = .ok (.goto 4, 3) := by decide +kernel
theorem dX6_enough_106 : decode cX6_enough 106 = .ok (.iload_n 3, 1) := by decide +kernel
theorem dX6_enough_107 : decode cX6_enough 107 = .ok (.ireturn, 1) := by decide +kernel
set_option maxRecDepth 20000 in
theorem ggX6_best_X6_in : GoodIn wsX6_best wsX6_in := goodIn_r _ [7] (by decide +kernel) (by decide +kernel)
set_option maxRecDepth 20000 in
theorem gX6_best_X6_in : GoodIn wsX6_best (va_wsS RX6 51 yX6_in wsX6_in) := goodIn_app (goodIn_of _ (by decide +kernel)) ggX6_best_X6_in
set_option maxRecDepth 20000 in
theorem ggX6_best_X6_all : GoodIn wsX6_best wsX6_all := goodIn_r _ [11, 12, 24, 25, 26, 27, 28, 29, 30, 31, 32, 33, 34, 35, 36, 37, 38, 39, 40, 41, 42, 43, 44, 45] (by decide +kernel) (by decide +kernel)
set_option maxRecDepth 20000 in
theorem gX6_best_X6_all : GoodIn wsX6_best (wsV RX6 136 RX6 yX6_all wsX6_all) := goodIn_app (goodIn_of _ (by decide +kernel)) ggX6_best_X6_all
set_option maxRecDepth 20000 in
theorem ggX6_best_X6_worthOf : GoodIn wsX6_best wsX6_worthOf := goodIn_r _ [16, 12, 17, 18, 19, 6, 20, 21, 22, 23, 24, 25, 26, 27, 28, 29, 30, 31, 32, 33, 34, 35, 36, 37, 38, 39, 40, 41, 42, 43, 44, 45] (by decide +kernel) (by decide +kernel)
set_option maxRecDepth 20000 in
theorem gX6_best_X6_worthOf : GoodIn wsX6_best (wsV RX6 163 RX6 yX6_worthOf wsX6_worthOf) := goodIn_app (goodIn_of _ (by decide +kernel)) ggX6_best_X6_worthOf
set_option maxRecDepth 20000 in
theorem ggX6_best_X6_ones : GoodIn wsX6_best wsX6_ones := goodIn_r _ [23] (by decide +kernel) (by decide +kernel)
set_option maxRecDepth 20000 in
theorem gX6_best_X6_ones : GoodIn wsX6_best (va_wsS RX6 140 yX6_ones wsX6_ones) := goodIn_app (goodIn_of _ (by decide +kernel)) ggX6_best_X6_ones
theorem dX6_best_0 : decode cX6_best 0 = .ok (.aload_n 0, 1) := by decide +kernel
theorem dX6_best_1 : decode cX6_best 1 = .ok (.getfield 129, 3) := by decide +kernel
theorem dX6_best_4 : decode cX6_best 4 = .ok (.ifCond .ne 6, 3) := by decide +kernel
theorem dX6_best_7 : decode cX6_best 7 = .ok (.ldc 150, 2) := by decide +kernel
theorem dX6_best_9 : decode cX6_best 9 = .ok (.ireturn, 1) := by decide +kernel
theorem dX6_best_10 : decode cX6_best 10 = .ok (.iload_n 1, 1) := by decide +kernel
theorem dX6_best_11 : decode cX6_best 11 = .ok (.i2l, 1) := by decide +kernel
theorem dX6_best_12 : decode cX6_best 12 = .ok (.lconst 0, 1) := by decide +kernel
theorem dX6_best_13 : decode cX6_best 13 = .ok (.lconst 1, 1) := by decide +kernel
theorem dX6_best_14 : decode cX6_best 14 = .ok (.invokestatic 51, 3) := by decide +kernel
theorem dX6_best_17 : decode cX6_best 17 = .ok (.ifCond .ne 6, 3) := by decide +kernel
theorem dX6_best_20 : decode cX6_best 20 = .ok (.ldc 61, 2) := by decide +kernel
theorem dX6_best_22 : decode cX6_best 22 = .ok (.ireturn, 1) := by decide +kernel
theorem dX6_best_23 : decode cX6_best 23 = .ok (.iconst 0, 1) := by decide +kernel
theorem dX6_best_24 : decode cX6_best 24 = .ok (.istore_n 2, 1) := by decide +kernel
theorem dX6_best_25 : decode cX6_best 25 = .ok (.iconst 1, 1) := by decide +kernel
theorem dX6_best_26 : decode cX6_best 26 = .ok (.istore_n 3, 1) := by decide +kernel
theorem dX6_best_27 : decode cX6_best 27 = .ok (.iload_n 3, 1) := by decide +kernel
theorem dX6_best_28 : decode cX6_best 28 = .ok (.aload_n 0, 1) := by decide +kernel
theorem dX6_best_29 : decode cX6_best 29 = .ok (.invokevirtual 136, 3) := by decide +kernel
theorem dX6_best_32 : decode cX6_best 32 = .ok (.if_icmp .gt 49, 3) := by decide +kernel
theorem dX6_best_35 : decode cX6_best 35 = .ok (.aload_n 0, 1) := by decide +kernel
theorem dX6_best_36 : decode cX6_best 36 = .ok (.iload_n 3, 1) := by decide +kernel
theorem dX6_best_37 : decode cX6_best 37 = .ok (.invokevirtual 163, 3) := by decide +kernel
theorem dX6_best_40 : decode cX6_best 40 = .ok (.aload_n 0, 1) := by decide +kernel
theorem dX6_best_41 : decode cX6_best 41 = .ok (.iload_n 2, 1) := by decide +kernel
theorem dX6_best_42 : decode cX6_best 42 = .ok (.invokevirtual 163, 3) := by decide +kernel
theorem dX6_best_45 : decode cX6_best 45 = .ok (.isub, 1) := by decide +kernel
theorem dX6_best_46 : decode cX6_best 46 = .ok (.istore 4, 2) := by decide +kernel
theorem dX6_best_48 : decode cX6_best 48 = .ok (.iload 4, 2) := by decide +kernel
theorem dX6_best_50 : decode cX6_best 50 = .ok (.ifCond .gt 19, 3) := by decide +kernel
theorem dX6_best_53 : decode cX6_best 53 = .ok (.iload 4, 2) := by decide +kernel
theorem dX6_best_55 : decode cX6_best 55 = .ok (.ifCond .ne 18, 3) := by decide +kernel
theorem dX6_best_58 : decode cX6_best 58 = .ok (.iload_n 3, 1) := by decide +kernel
theorem dX6_best_59 : decode cX6_best 59 = .ok (.invokestatic 140, 3) := by decide +kernel
theorem dX6_best_62 : decode cX6_best 62 = .ok (.iload_n 2, 1) := by decide +kernel
theorem dX6_best_63 : decode cX6_best 63 = .ok (.invokestatic 140, 3) := by decide +kernel
theorem dX6_best_66 : decode cX6_best 66 = .ok (.if_icmp .ge 7, 3) := by decide +kernel
theorem dX6_best_69 : decode cX6_best 69 = .ok (.iload_n 3, 1) := by decide +kernel
theorem dX6_best_70 : decode cX6_best 70 = .ok (.goto 4, 3) := by decide +kernel
theorem dX6_best_73 : decode cX6_best 73 = .ok (.iload_n 2, 1) := by decide +kernel
theorem dX6_best_74 : decode cX6_best 74 = .ok (.istore_n 2, 1) := by decide +kernel
theorem dX6_best_75 : decode cX6_best 75 = .ok (.iinc 3 1, 3) := by decide +kernel
theorem dX6_best_78 : decode cX6_best 78 = .ok (.goto (-51), 3) := by decide +kernel
theorem dX6_best_81 : decode cX6_best 81 = .ok (.iload_n 1, 1) := by decide +kernel
theorem dX6_best_82 : decode cX6_best 82 = .ok (.ifCond .ne 7, 3) := by decide +kernel
theorem dX6_best_85 : decode cX6_best 85 = .ok (.iload_n 2, 1) := by decide +kernel
theorem dX6_best_86 : decode cX6_best 86 = .ok (.goto 8, 3) := by decide +kernel
theorem dX6_best_89 : decode cX6_best 89 = .ok (.aload_n 0, 1) := by decide +kernel
theorem dX6_best_90 : decode cX6_best 90 = .ok (.iload_n 2, 1) := by decide +kernel
theorem dX6_best_91 : decode cX6_best 91 = .ok (.invokevirtual 163, 3) := by decide +kernel
theorem dX6_best_94 : decode cX6_best 94 = .ok (.ireturn, 1) := by decide +kernel
set_option maxRecDepth 20000 in
theorem ggX6_bring_X6_in : GoodIn wsX6_bring wsX6_in := goodIn_r _ [9] (by decide +kernel) (by decide +kernel)
set_option maxRecDepth 20000 in
theorem gX6_bring_X6_in : GoodIn wsX6_bring (va_wsS RX6 51 yX6_in wsX6_in) := goodIn_app (goodIn_of _ (by decide +kernel)) ggX6_bring_X6_in
set_option maxRecDepth 20000 in
theorem ggX6_bring_X6_has : GoodIn wsX6_bring wsX6_has := goodIn_r _ [12] (by decide +kernel) (by decide +kernel)
set_option maxRecDepth 20000 in
theorem gX6_bring_X6_has : GoodIn wsX6_bring (va_wsS RX6 172 yX6_has wsX6_has) := goodIn_app (goodIn_of _ (by decide +kernel)) ggX6_bring_X6_has
set_option maxRecDepth 20000 in
theorem ggX6_bring_X6_here : GoodIn wsX6_bring wsX6_here := goodIn_r _ [16, 5, 17, 18, 19, 8, 20, 36, 37, 38, 39, 40, 41, 42, 43, 44, 45, 46, 47, 48, 49, 50, 51, 52, 53, 54, 55, 56, 57] (by decide +kernel) (by decide +kernel)
set_option maxRecDepth 20000 in
theorem gX6_bring_X6_here : GoodIn wsX6_bring (wsV RX6 160 RX6 yX6_here wsX6_here) := goodIn_app (goodIn_of _ (by decide +kernel)) ggX6_bring_X6_here
set_option maxRecDepth 20000 in
theorem ggX6_bring_X6_addsTo : GoodIn wsX6_bring wsX6_addsTo := goodIn_r _ [24, 25, 26, 27, 8, 28, 5, 29, 30, 31, 32, 33, 34, 35, 36, 37, 38, 39, 40, 41, 42, 43, 44, 45, 46, 47, 48, 49, 50, 51, 52, 53, 54, 55, 56, 57] (by decide +kernel) (by decide +kernel)
set_option maxRecDepth 20000 in
theorem gX6_bring_X6_addsTo : GoodIn wsX6_bring (wsV RX6 176 RX6 yX6_addsTo wsX6_addsTo) := goodIn_app (goodIn_of _ (by decide +kernel)) ggX6_bring_X6_addsTo
theorem dX6_bring_0 : decode cX6_bring 0 = .ok (.aload_n 0, 1) := by decide +kernel
theorem dX6_bring_1 : decode cX6_bring 1 = .ok (.getfield 129, 3) := by decide +kernel
theorem dX6_bring_4 : decode cX6_bring 4 = .ok (.ifCond .ne 6, 3) := by decide +kernel
theorem dX6_bring_7 : decode cX6_bring 7 = .ok (.ldc 150, 2) := by decide +kernel
theorem dX6_bring_9 : decode cX6_bring 9 = .ok (.ireturn, 1) := by decide +kernel
theorem dX6_bring_10 : decode cX6_bring 10 = .ok (.iload_n 1, 1) := by decide +kernel
theorem dX6_bring_11 : decode cX6_bring 11 = .ok (.i2l, 1) := by decide +kernel
theorem dX6_bring_12 : decode cX6_bring 12 = .ok (.lconst 0, 1) := by decide +kernel
theorem dX6_bring_13 : decode cX6_bring 13 = .ok (.lconst 1, 1) := by decide +kernel
theorem dX6_bring_14 : decode cX6_bring 14 = .ok (.invokestatic 51, 3) := by decide +kernel
theorem dX6_bring_17 : decode cX6_bring 17 = .ok (.ifCond .ne 6, 3) := by decide +kernel
theorem dX6_bring_20 : decode cX6_bring 20 = .ok (.ldc 61, 2) := by decide +kernel
theorem dX6_bring_22 : decode cX6_bring 22 = .ok (.ireturn, 1) := by decide +kernel
theorem dX6_bring_23 : decode cX6_bring 23 = .ok (.ldc 191, 2) := by decide +kernel
theorem dX6_bring_25 : decode cX6_bring 25 = .ok (.istore_n 2, 1) := by decide +kernel
theorem dX6_bring_26 : decode cX6_bring 26 = .ok (.iconst 0, 1) := by decide +kernel
theorem dX6_bring_27 : decode cX6_bring 27 = .ok (.istore_n 3, 1) := by decide +kernel
theorem dX6_bring_28 : decode cX6_bring 28 = .ok (.iload_n 3, 1) := by decide +kernel
theorem dX6_bring_29 : decode cX6_bring 29 = .ok (.aload_n 0, 1) := by decide +kernel
theorem dX6_bring_30 : decode cX6_bring 30 = .ok (.getfield 19, 3) := by decide +kernel
theorem dX6_bring_33 : decode cX6_bring 33 = .ok (.iconst 0, 1) := by decide +kernel
theorem dX6_bring_34 : decode cX6_bring 34 = .ok (.iaload, 1) := by decide +kernel
theorem dX6_bring_35 : decode cX6_bring 35 = .ok (.if_icmp .ge 57, 3) := by decide +kernel
theorem dX6_bring_38 : decode cX6_bring 38 = .ok (.aload_n 0, 1) := by decide +kernel
theorem dX6_bring_39 : decode cX6_bring 39 = .ok (.getfield 19, 3) := by decide +kernel
theorem dX6_bring_42 : decode cX6_bring 42 = .ok (.iconst 4, 1) := by decide +kernel
theorem dX6_bring_43 : decode cX6_bring 43 = .ok (.iaload, 1) := by decide +kernel
theorem dX6_bring_44 : decode cX6_bring 44 = .ok (.iload_n 3, 1) := by decide +kernel
theorem dX6_bring_45 : decode cX6_bring 45 = .ok (.invokestatic 172, 3) := by decide +kernel
theorem dX6_bring_48 : decode cX6_bring 48 = .ok (.istore 4, 2) := by decide +kernel
theorem dX6_bring_50 : decode cX6_bring 50 = .ok (.iload 4, 2) := by decide +kernel
theorem dX6_bring_52 : decode cX6_bring 52 = .ok (.ifCond .eq 32, 3) := by decide +kernel
theorem dX6_bring_55 : decode cX6_bring 55 = .ok (.iload_n 2, 1) := by decide +kernel
theorem dX6_bring_56 : decode cX6_bring 56 = .ok (.ifCond .lt 24, 3) := by decide +kernel
theorem dX6_bring_59 : decode cX6_bring 59 = .ok (.aload_n 0, 1) := by decide +kernel
theorem dX6_bring_60 : decode cX6_bring 60 = .ok (.iload_n 3, 1) := by decide +kernel
theorem dX6_bring_61 : decode cX6_bring 61 = .ok (.aload_n 0, 1) := by decide +kernel
theorem dX6_bring_62 : decode cX6_bring 62 = .ok (.invokevirtual 160, 3) := by decide +kernel
theorem dX6_bring_65 : decode cX6_bring 65 = .ok (.invokevirtual 176, 3) := by decide +kernel
theorem dX6_bring_68 : decode cX6_bring 68 = .ok (.aload_n 0, 1) := by decide +kernel
theorem dX6_bring_69 : decode cX6_bring 69 = .ok (.iload_n 2, 1) := by decide +kernel
theorem dX6_bring_70 : decode cX6_bring 70 = .ok (.aload_n 0, 1) := by decide +kernel
theorem dX6_bring_71 : decode cX6_bring 71 = .ok (.invokevirtual 160, 3) := by decide +kernel
theorem dX6_bring_74 : decode cX6_bring 74 = .ok (.invokevirtual 176, 3) := by decide +kernel
theorem dX6_bring_77 : decode cX6_bring 77 = .ok (.if_icmp .le 7, 3) := by decide +kernel
theorem dX6_bring_80 : decode cX6_bring 80 = .ok (.iload_n 3, 1) := by decide +kernel
theorem dX6_bring_81 : decode cX6_bring 81 = .ok (.goto 4, 3) := by decide +kernel
theorem dX6_bring_84 : decode cX6_bring 84 = .ok (.iload_n 2, 1) := by decide +kernel
theorem dX6_bring_85 : decode cX6_bring 85 = .ok (.istore_n 2, 1) := by decide +kernel
theorem dX6_bring_86 : decode cX6_bring 86 = .ok (.iinc 3 1, 3) := by decide +kernel
theorem dX6_bring_89 : decode cX6_bring 89 = .ok (.goto (-61), 3) := by decide +kernel
theorem dX6_bring_92 : decode cX6_bring 92 = .ok (.iload_n 2, 1) := by decide +kernel
theorem dX6_bring_93 : decode cX6_bring 93 = .ok (.ifCond .lt 7, 3) := by decide +kernel
theorem dX6_bring_96 : decode cX6_bring 96 = .ok (.iload_n 1, 1) := by decide +kernel
theorem dX6_bring_97 : decode cX6_bring 97 = .ok (.ifCond .ne 7, 3) := by decide +kernel
theorem dX6_bring_100 : decode cX6_bring 100 = .ok (.iload_n 2, 1) := by decide +kernel
theorem dX6_bring_101 : decode cX6_bring 101 = .ok (.goto 12, 3) := by decide +kernel
theorem dX6_bring_104 : decode cX6_bring 104 = .ok (.aload_n 0, 1) := by decide +kernel
theorem dX6_bring_105 : decode cX6_bring 105 = .ok (.iload_n 2, 1) := by decide +kernel
theorem dX6_bring_106 : decode cX6_bring 106 = .ok (.aload_n 0, 1) := by decide +kernel
theorem dX6_bring_107 : decode cX6_bring 107 = .ok (.invokevirtual 160, 3) := by decide +kernel
theorem dX6_bring_110 : decode cX6_bring 110 = .ok (.invokevirtual 176, 3) := by decide +kernel
theorem dX6_bring_113 : decode cX6_bring 113 = .ok (.ireturn, 1) := by decide +kernel
set_option maxRecDepth 20000 in
theorem ggX6_which_X6_isTie : GoodIn wsX6_which wsX6_isTie := goodIn_r _ [9, 4, 10, 11, 8, 12, 51, 52, 53, 54, 55, 56, 57, 58, 59, 60, 61, 62, 63, 64, 65, 66, 67, 68, 69, 70, 71, 72] (by decide +kernel) (by decide +kernel)
set_option maxRecDepth 20000 in
theorem gX6_which_X6_isTie : GoodIn wsX6_which (wsV RX6 166 RX6 yX6_isTie wsX6_isTie) := goodIn_app (goodIn_of _ (by decide +kernel)) ggX6_which_X6_isTie
set_option maxRecDepth 20000 in
theorem ggX6_which_X6_isRow : GoodIn wsX6_which wsX6_isRow := goodIn_r _ [15, 16, 10, 11, 8, 12] (by decide +kernel) (by decide +kernel)
set_option maxRecDepth 20000 in
theorem gX6_which_X6_isRow : GoodIn wsX6_which (va_wsS RX6 55 yX6_isRow wsX6_isRow) := goodIn_app (goodIn_of _ (by decide +kernel)) ggX6_which_X6_isRow
set_option maxRecDepth 20000 in
theorem ggX6_which_X6_in : GoodIn wsX6_which wsX6_in := goodIn_r _ [12] (by decide +kernel) (by decide +kernel)
set_option maxRecDepth 20000 in
theorem gX6_which_X6_in : GoodIn wsX6_which (va_wsS RX6 51 yX6_in wsX6_in) := goodIn_app (goodIn_of _ (by decide +kernel)) ggX6_which_X6_in
set_option maxRecDepth 20000 in
theorem ggX6_which_X6_lacks : GoodIn wsX6_which wsX6_lacks := goodIn_r _ [20, 21, 22, 23, 24, 8, 25, 26, 27, 10, 11, 12, 51, 52, 53, 54, 55, 56, 57, 58, 59, 60, 61, 62, 63, 64, 65, 66, 67, 68, 69, 70, 71, 72] (by decide +kernel) (by decide +kernel)
set_option maxRecDepth 20000 in
theorem gX6_which_X6_lacks : GoodIn wsX6_which (wsV RX6 188 RX6 yX6_lacks wsX6_lacks) := goodIn_app (goodIn_of _ (by decide +kernel)) ggX6_which_X6_lacks
set_option maxRecDepth 20000 in
theorem ggX6_which_X6_isSet : GoodIn wsX6_which wsX6_isSet := goodIn_r _ [31, 32, 33, 34, 8, 35, 4, 10, 11, 12, 51, 52, 53, 54, 55, 56, 57, 58, 59, 60, 61, 62, 63, 64, 65, 66, 67, 68, 69, 70, 71, 72] (by decide +kernel) (by decide +kernel)
set_option maxRecDepth 20000 in
theorem gX6_which_X6_isSet : GoodIn wsX6_which (wsV RX6 169 RX6 yX6_isSet wsX6_isSet) := goodIn_app (goodIn_of _ (by decide +kernel)) ggX6_which_X6_isSet
set_option maxRecDepth 20000 in
theorem ggX6_which_X6_worthOf : GoodIn wsX6_which wsX6_worthOf := goodIn_r _ [39, 4, 40, 41, 42, 8, 43, 44, 45, 46, 51, 52, 53, 54, 55, 56, 57, 58, 59, 60, 61, 62, 63, 64, 65, 66, 67, 68, 69, 70, 71, 72] (by decide +kernel) (by decide +kernel)
set_option maxRecDepth 20000 in
theorem gX6_which_X6_worthOf : GoodIn wsX6_which (wsV RX6 163 RX6 yX6_worthOf wsX6_worthOf) := goodIn_app (goodIn_of _ (by decide +kernel)) ggX6_which_X6_worthOf
set_option maxRecDepth 20000 in
theorem ggX6_which_X6_countsBy : GoodIn wsX6_which wsX6_countsBy := goodIn_r _ [43, 4, 44, 45, 8, 46, 51, 52, 53, 54, 55, 56, 57, 58, 59, 60, 61, 62, 63, 64, 65, 66, 67, 68, 69, 70, 71, 72] (by decide +kernel) (by decide +kernel)
set_option maxRecDepth 20000 in
theorem gX6_which_X6_countsBy : GoodIn wsX6_which (wsV RX6 143 RX6 yX6_countsBy wsX6_countsBy) := goodIn_app (goodIn_of _ (by decide +kernel)) ggX6_which_X6_countsBy
set_option maxRecDepth 20000 in
theorem ggX6_which_X6_well : GoodIn wsX6_which wsX6_well := goodIn_r _ [50, 26, 51, 52, 53, 54, 55, 56, 57, 58, 59, 60, 61, 62, 63, 64, 65, 66, 67, 68, 69, 70, 71, 72] (by decide +kernel) (by decide +kernel)
set_option maxRecDepth 20000 in
theorem gX6_which_X6_well : GoodIn wsX6_which (wsV RX6 66 RX6 yX6_well wsX6_well) := goodIn_app (goodIn_of _ (by decide +kernel)) ggX6_which_X6_well
theorem dX6_which_0 : decode cX6_which 0 = .ok (.aload_n 0, 1) := by decide +kernel
theorem dX6_which_1 : decode cX6_which 1 = .ok (.iload_n 1, 1) := by decide +kernel
theorem dX6_which_2 : decode cX6_which 2 = .ok (.invokevirtual 166, 3) := by decide +kernel
theorem dX6_which_5 : decode cX6_which 5 = .ok (.ifCond .eq 23, 3) := by decide +kernel
theorem dX6_which_8 : decode cX6_which 8 = .ok (.iload_n 2, 1) := by decide +kernel
theorem dX6_which_9 : decode cX6_which 9 = .ok (.invokestatic 55, 3) := by decide +kernel
theorem dX6_which_12 : decode cX6_which 12 = .ok (.ifCond .eq 16, 3) := by decide +kernel
theorem dX6_which_15 : decode cX6_which 15 = .ok (.iload 4, 2) := by decide +kernel
theorem dX6_which_17 : decode cX6_which 17 = .ok (.i2l, 1) := by decide +kernel
theorem dX6_which_18 : decode cX6_which 18 = .ok (.lconst 0, 1) := by decide +kernel
theorem dX6_which_19 : decode cX6_which 19 = .ok (.ldc2_w 199, 3) := by decide +kernel
theorem dX6_which_22 : decode cX6_which 22 = .ok (.invokestatic 51, 3) := by decide +kernel
theorem dX6_which_25 : decode cX6_which 25 = .ok (.ifCond .ne 6, 3) := by decide +kernel
theorem dX6_which_28 : decode cX6_which 28 = .ok (.ldc 61, 2) := by decide +kernel
theorem dX6_which_30 : decode cX6_which 30 = .ok (.ireturn, 1) := by decide +kernel
theorem dX6_which_31 : decode cX6_which 31 = .ok (.aload_n 0, 1) := by decide +kernel
theorem dX6_which_32 : decode cX6_which 32 = .ok (.iload_n 2, 1) := by decide +kernel
theorem dX6_which_33 : decode cX6_which 33 = .ok (.iload_n 3, 1) := by decide +kernel
theorem dX6_which_34 : decode cX6_which 34 = .ok (.iconst 2, 1) := by decide +kernel
theorem dX6_which_35 : decode cX6_which 35 = .ok (.iload 4, 2) := by decide +kernel
theorem dX6_which_37 : decode cX6_which 37 = .ok (.imul, 1) := by decide +kernel
theorem dX6_which_38 : decode cX6_which 38 = .ok (.invokevirtual 188, 3) := by decide +kernel
theorem dX6_which_41 : decode cX6_which 41 = .ok (.istore 5, 2) := by decide +kernel
theorem dX6_which_43 : decode cX6_which 43 = .ok (.iload 5, 2) := by decide +kernel
theorem dX6_which_45 : decode cX6_which 45 = .ok (.ifCond .ge 6, 3) := by decide +kernel
theorem dX6_which_48 : decode cX6_which 48 = .ok (.iload 5, 2) := by decide +kernel
theorem dX6_which_50 : decode cX6_which 50 = .ok (.ireturn, 1) := by decide +kernel
theorem dX6_which_51 : decode cX6_which 51 = .ok (.bipush 40, 2) := by decide +kernel
theorem dX6_which_53 : decode cX6_which 53 = .ok (.iload_n 2, 1) := by decide +kernel
theorem dX6_which_54 : decode cX6_which 54 = .ok (.imul, 1) := by decide +kernel
theorem dX6_which_55 : decode cX6_which 55 = .ok (.iload_n 3, 1) := by decide +kernel
theorem dX6_which_56 : decode cX6_which 56 = .ok (.iadd, 1) := by decide +kernel
theorem dX6_which_57 : decode cX6_which 57 = .ok (.istore 6, 2) := by decide +kernel
theorem dX6_which_59 : decode cX6_which 59 = .ok (.iconst 0, 1) := by decide +kernel
theorem dX6_which_60 : decode cX6_which 60 = .ok (.istore 7, 2) := by decide +kernel
theorem dX6_which_62 : decode cX6_which 62 = .ok (.iload 7, 2) := by decide +kernel
theorem dX6_which_64 : decode cX6_which 64 = .ok (.iload 4, 2) := by decide +kernel
theorem dX6_which_66 : decode cX6_which 66 = .ok (.if_icmp .ge 31, 3) := by decide +kernel
theorem dX6_which_69 : decode cX6_which 69 = .ok (.aload_n 0, 1) := by decide +kernel
theorem dX6_which_70 : decode cX6_which 70 = .ok (.aload_n 0, 1) := by decide +kernel
theorem dX6_which_71 : decode cX6_which 71 = .ok (.getfield 16, 3) := by decide +kernel
theorem dX6_which_74 : decode cX6_which 74 = .ok (.iload 6, 2) := by decide +kernel
theorem dX6_which_76 : decode cX6_which 76 = .ok (.iconst 2, 1) := by decide +kernel
theorem dX6_which_77 : decode cX6_which 77 = .ok (.iload 7, 2) := by decide +kernel
theorem dX6_which_79 : decode cX6_which 79 = .ok (.imul, 1) := by decide +kernel
theorem dX6_which_80 : decode cX6_which 80 = .ok (.iadd, 1) := by decide +kernel
theorem dX6_which_81 : decode cX6_which 81 = .ok (.iaload, 1) := by decide +kernel
theorem dX6_which_82 : decode cX6_which 82 = .ok (.invokevirtual 169, 3) := by decide +kernel
theorem dX6_which_85 : decode cX6_which 85 = .ok (.ifCond .ne 6, 3) := by decide +kernel
theorem dX6_which_88 : decode cX6_which 88 = .ok (.ldc 61, 2) := by decide +kernel
theorem dX6_which_90 : decode cX6_which 90 = .ok (.ireturn, 1) := by decide +kernel
theorem dX6_which_91 : decode cX6_which 91 = .ok (.iinc 7 1, 3) := by decide +kernel
theorem dX6_which_94 : decode cX6_which 94 = .ok (.goto (-32), 3) := by decide +kernel
theorem dX6_which_97 : decode cX6_which 97 = .ok (.iconst 0, 1) := by decide +kernel
theorem dX6_which_98 : decode cX6_which 98 = .ok (.istore 7, 2) := by decide +kernel
theorem dX6_which_100 : decode cX6_which 100 = .ok (.iconst 1, 1) := by decide +kernel
theorem dX6_which_101 : decode cX6_which 101 = .ok (.istore 8, 2) := by decide +kernel
theorem dX6_which_103 : decode cX6_which 103 = .ok (.iload 8, 2) := by decide +kernel
theorem dX6_which_105 : decode cX6_which 105 = .ok (.iconst 5, 1) := by decide +kernel
theorem dX6_which_106 : decode cX6_which 106 = .ok (.if_icmp .gt 125, 3) := by decide +kernel
theorem dX6_which_109 : decode cX6_which 109 = .ok (.iconst 1, 1) := by decide +kernel
theorem dX6_which_110 : decode cX6_which 110 = .ok (.istore 9, 2) := by decide +kernel
theorem dX6_which_112 : decode cX6_which 112 = .ok (.iconst 0, 1) := by decide +kernel
theorem dX6_which_113 : decode cX6_which 113 = .ok (.istore 10, 2) := by decide +kernel
theorem dX6_which_115 : decode cX6_which 115 = .ok (.iload 10, 2) := by decide +kernel
theorem dX6_which_117 : decode cX6_which 117 = .ok (.iload 4, 2) := by decide +kernel
theorem dX6_which_119 : decode cX6_which 119 = .ok (.if_icmp .ge 88, 3) := by decide +kernel
theorem dX6_which_122 : decode cX6_which 122 = .ok (.aload_n 0, 1) := by decide +kernel
theorem dX6_which_123 : decode cX6_which 123 = .ok (.getfield 16, 3) := by decide +kernel
theorem dX6_which_126 : decode cX6_which 126 = .ok (.iload 6, 2) := by decide +kernel
theorem dX6_which_128 : decode cX6_which 128 = .ok (.iconst 2, 1) := by decide +kernel
theorem dX6_which_129 : decode cX6_which 129 = .ok (.iload 10, 2) := by decide +kernel
theorem dX6_which_131 : decode cX6_which 131 = .ok (.imul, 1) := by decide +kernel
theorem dX6_which_132 : decode cX6_which 132 = .ok (.iadd, 1) := by decide +kernel
theorem dX6_which_133 : decode cX6_which 133 = .ok (.iaload, 1) := by decide +kernel
theorem dX6_which_134 : decode cX6_which 134 = .ok (.istore 11, 2) := by decide +kernel
theorem dX6_which_136 : decode cX6_which 136 = .ok (.aload_n 0, 1) := by decide +kernel
theorem dX6_which_137 : decode cX6_which 137 = .ok (.iload 11, 2) := by decide +kernel
theorem dX6_which_139 : decode cX6_which 139 = .ok (.invokevirtual 163, 3) := by decide +kernel
theorem dX6_which_142 : decode cX6_which 142 = .ok (.aload_n 0, 1) := by decide +kernel
theorem dX6_which_143 : decode cX6_which 143 = .ok (.aload_n 0, 1) := by decide +kernel
theorem dX6_which_144 : decode cX6_which 144 = .ok (.getfield 19, 3) := by decide +kernel
theorem dX6_which_147 : decode cX6_which 147 = .ok (.iconst 5, 1) := by decide +kernel
theorem dX6_which_148 : decode cX6_which 148 = .ok (.iload_n 1, 1) := by decide +kernel
theorem dX6_which_149 : decode cX6_which 149 = .ok (.iadd, 1) := by decide +kernel
theorem dX6_which_150 : decode cX6_which 150 = .ok (.iaload, 1) := by decide +kernel
theorem dX6_which_151 : decode cX6_which 151 = .ok (.iload_n 1, 1) := by decide +kernel
theorem dX6_which_152 : decode cX6_which 152 = .ok (.iload 11, 2) := by decide +kernel
theorem dX6_which_154 : decode cX6_which 154 = .ok (.invokevirtual 143, 3) := by decide +kernel
theorem dX6_which_157 : decode cX6_which 157 = .ok (.isub, 1) := by decide +kernel
theorem dX6_which_158 : decode cX6_which 158 = .ok (.istore 12, 2) := by decide +kernel
theorem dX6_which_160 : decode cX6_which 160 = .ok (.iload 9, 2) := by decide +kernel
theorem dX6_which_162 : decode cX6_which 162 = .ok (.ifCond .eq 36, 3) := by decide +kernel
theorem dX6_which_165 : decode cX6_which 165 = .ok (.aload_n 0, 1) := by decide +kernel
theorem dX6_which_166 : decode cX6_which 166 = .ok (.getfield 16, 3) := by decide +kernel
theorem dX6_which_169 : decode cX6_which 169 = .ok (.iload 6, 2) := by decide +kernel
theorem dX6_which_171 : decode cX6_which 171 = .ok (.iconst 2, 1) := by decide +kernel
theorem dX6_which_172 : decode cX6_which 172 = .ok (.iload 10, 2) := by decide +kernel
theorem dX6_which_174 : decode cX6_which 174 = .ok (.imul, 1) := by decide +kernel
theorem dX6_which_175 : decode cX6_which 175 = .ok (.iadd, 1) := by decide +kernel
theorem dX6_which_176 : decode cX6_which 176 = .ok (.iconst 1, 1) := by decide +kernel
theorem dX6_which_177 : decode cX6_which 177 = .ok (.iadd, 1) := by decide +kernel
theorem dX6_which_178 : decode cX6_which 178 = .ok (.iaload, 1) := by decide +kernel
theorem dX6_which_179 : decode cX6_which 179 = .ok (.iload 12, 2) := by decide +kernel
theorem dX6_which_181 : decode cX6_which 181 = .ok (.aload_n 0, 1) := by decide +kernel
theorem dX6_which_182 : decode cX6_which 182 = .ok (.iload 8, 2) := by decide +kernel
theorem dX6_which_184 : decode cX6_which 184 = .ok (.iload_n 1, 1) := by decide +kernel
theorem dX6_which_185 : decode cX6_which 185 = .ok (.iload 11, 2) := by decide +kernel
theorem dX6_which_187 : decode cX6_which 187 = .ok (.invokevirtual 143, 3) := by decide +kernel
theorem dX6_which_190 : decode cX6_which 190 = .ok (.iadd, 1) := by decide +kernel
theorem dX6_which_191 : decode cX6_which 191 = .ok (.if_icmp .ne 7, 3) := by decide +kernel
theorem dX6_which_194 : decode cX6_which 194 = .ok (.iconst 1, 1) := by decide +kernel
theorem dX6_which_195 : decode cX6_which 195 = .ok (.goto 4, 3) := by decide +kernel
theorem dX6_which_198 : decode cX6_which 198 = .ok (.iconst 0, 1) := by decide +kernel
theorem dX6_which_199 : decode cX6_which 199 = .ok (.istore 9, 2) := by decide +kernel
theorem dX6_which_201 : decode cX6_which 201 = .ok (.iinc 10 1, 3) := by decide +kernel
theorem dX6_which_204 : decode cX6_which 204 = .ok (.goto (-89), 3) := by decide +kernel
theorem dX6_which_207 : decode cX6_which 207 = .ok (.iload 7, 2) := by decide +kernel
theorem dX6_which_209 : decode cX6_which 209 = .ok (.iload 9, 2) := by decide +kernel
theorem dX6_which_211 : decode cX6_which 211 = .ok (.ifCond .eq 10, 3) := by decide +kernel
theorem dX6_which_214 : decode cX6_which 214 = .ok (.iconst 1, 1) := by decide +kernel
theorem dX6_which_215 : decode cX6_which 215 = .ok (.iload 8, 2) := by decide +kernel
theorem dX6_which_217 : decode cX6_which 217 = .ok (.ishl, 1) := by decide +kernel
theorem dX6_which_218 : decode cX6_which 218 = .ok (.goto 4, 3) := by decide +kernel
theorem dX6_which_221 : decode cX6_which 221 = .ok (.iconst 0, 1) := by decide +kernel
theorem dX6_which_222 : decode cX6_which 222 = .ok (.ior, 1) := by decide +kernel
theorem dX6_which_223 : decode cX6_which 223 = .ok (.istore 7, 2) := by decide +kernel
theorem dX6_which_225 : decode cX6_which 225 = .ok (.iinc 8 1, 3) := by decide +kernel
theorem dX6_which_228 : decode cX6_which 228 = .ok (.goto (-125), 3) := by decide +kernel
theorem dX6_which_231 : decode cX6_which 231 = .ok (.aload_n 0, 1) := by decide +kernel
theorem dX6_which_232 : decode cX6_which 232 = .ok (.iload 7, 2) := by decide +kernel
theorem dX6_which_234 : decode cX6_which 234 = .ok (.invokevirtual 66, 3) := by decide +kernel
theorem dX6_which_237 : decode cX6_which 237 = .ok (.ireturn, 1) := by decide +kernel
set_option maxRecDepth 20000 in
theorem ggX6_colds_X6_isMuch : GoodIn wsX6_colds wsX6_isMuch := goodIn_r _ [9, 10, 11, 12, 13, 8, 14] (by decide +kernel) (by decide +kernel)
set_option maxRecDepth 20000 in
theorem gX6_colds_X6_isMuch : GoodIn wsX6_colds (va_wsS RX6 196 yX6_isMuch wsX6_isMuch) := goodIn_app (goodIn_of _ (by decide +kernel)) ggX6_colds_X6_isMuch
set_option maxRecDepth 20000 in
theorem ggX6_colds_X6_in : GoodIn wsX6_colds wsX6_in := goodIn_r _ [14] (by decide +kernel) (by decide +kernel)
set_option maxRecDepth 20000 in
theorem gX6_colds_X6_in : GoodIn wsX6_colds (va_wsS RX6 51 yX6_in wsX6_in) := goodIn_app (goodIn_of _ (by decide +kernel)) ggX6_colds_X6_in
set_option maxRecDepth 20000 in
theorem ggX6_colds_X6_here : GoodIn wsX6_colds wsX6_here := goodIn_r _ [18, 5, 19, 20, 21, 8, 22, 40, 41, 42, 43, 44, 45, 46, 47, 48, 49, 50, 51, 52, 53, 54, 55, 56, 57, 58, 59, 60, 61] (by decide +kernel) (by decide +kernel)
set_option maxRecDepth 20000 in
theorem gX6_colds_X6_here : GoodIn wsX6_colds (wsV RX6 160 RX6 yX6_here wsX6_here) := goodIn_app (goodIn_of _ (by decide +kernel)) ggX6_colds_X6_here
set_option maxRecDepth 20000 in
theorem ggX6_colds_X6_ones : GoodIn wsX6_colds wsX6_ones := goodIn_r _ [25] (by decide +kernel) (by decide +kernel)
set_option maxRecDepth 20000 in
theorem gX6_colds_X6_ones : GoodIn wsX6_colds (va_wsS RX6 140 yX6_ones wsX6_ones) := goodIn_app (goodIn_of _ (by decide +kernel)) ggX6_colds_X6_ones
set_option maxRecDepth 20000 in
theorem ggX6_colds_X6_all : GoodIn wsX6_colds wsX6_all := goodIn_r _ [22, 5, 40, 41, 42, 43, 44, 45, 46, 47, 48, 49, 50, 51, 52, 53, 54, 55, 56, 57, 58, 59, 60, 61] (by decide +kernel) (by decide +kernel)
set_option maxRecDepth 20000 in
theorem gX6_colds_X6_all : GoodIn wsX6_colds (wsV RX6 136 RX6 yX6_all wsX6_all) := goodIn_app (goodIn_of _ (by decide +kernel)) ggX6_colds_X6_all
set_option maxRecDepth 20000 in
theorem ggX6_colds_X6_has : GoodIn wsX6_colds wsX6_has := goodIn_r _ [28] (by decide +kernel) (by decide +kernel)
set_option maxRecDepth 20000 in
theorem gX6_colds_X6_has : GoodIn wsX6_colds (va_wsS RX6 172 yX6_has wsX6_has) := goodIn_app (goodIn_of _ (by decide +kernel)) ggX6_colds_X6_has
set_option maxRecDepth 20000 in
theorem ggX6_colds_X6_worthOf : GoodIn wsX6_colds wsX6_worthOf := goodIn_r _ [32, 5, 33, 34, 35, 8, 36, 23, 24, 25, 40, 41, 42, 43, 44, 45, 46, 47, 48, 49, 50, 51, 52, 53, 54, 55, 56, 57, 58, 59, 60, 61] (by decide +kernel) (by decide +kernel)
set_option maxRecDepth 20000 in
theorem gX6_colds_X6_worthOf : GoodIn wsX6_colds (wsV RX6 163 RX6 yX6_worthOf wsX6_worthOf) := goodIn_app (goodIn_of _ (by decide +kernel)) ggX6_colds_X6_worthOf
set_option maxRecDepth 20000 in
theorem ggX6_colds_X6_common : GoodIn wsX6_colds wsX6_common := goodIn_r _ [39] (by decide +kernel) (by decide +kernel)
set_option maxRecDepth 20000 in
theorem gX6_colds_X6_common : GoodIn wsX6_colds (va_wsS RX6 182 yX6_common wsX6_common) := goodIn_app (goodIn_of _ (by decide +kernel)) ggX6_colds_X6_common
theorem dX6_colds_0 : decode cX6_colds 0 = .ok (.aload_n 0, 1) := by decide +kernel
theorem dX6_colds_1 : decode cX6_colds 1 = .ok (.getfield 129, 3) := by decide +kernel
theorem dX6_colds_4 : decode cX6_colds 4 = .ok (.ifCond .ne 6, 3) := by decide +kernel
theorem dX6_colds_7 : decode cX6_colds 7 = .ok (.ldc 150, 2) := by decide +kernel
theorem dX6_colds_9 : decode cX6_colds 9 = .ok (.ireturn, 1) := by decide +kernel
theorem dX6_colds_10 : decode cX6_colds 10 = .ok (.iload_n 1, 1) := by decide +kernel
theorem dX6_colds_11 : decode cX6_colds 11 = .ok (.iload_n 3, 1) := by decide +kernel
theorem dX6_colds_12 : decode cX6_colds 12 = .ok (.invokestatic 196, 3) := by decide +kernel
theorem dX6_colds_15 : decode cX6_colds 15 = .ok (.ifCond .eq 15, 3) := by decide +kernel
theorem dX6_colds_18 : decode cX6_colds 18 = .ok (.iload_n 2, 1) := by decide +kernel
theorem dX6_colds_19 : decode cX6_colds 19 = .ok (.i2l, 1) := by decide +kernel
theorem dX6_colds_20 : decode cX6_colds 20 = .ok (.lconst 0, 1) := by decide +kernel
theorem dX6_colds_21 : decode cX6_colds 21 = .ok (.ldc2_w 199, 3) := by decide +kernel
theorem dX6_colds_24 : decode cX6_colds 24 = .ok (.invokestatic 51, 3) := by decide +kernel
theorem dX6_colds_27 : decode cX6_colds 27 = .ok (.ifCond .ne 6, 3) := by decide +kernel
theorem dX6_colds_30 : decode cX6_colds 30 = .ok (.ldc 61, 2) := by decide +kernel
theorem dX6_colds_32 : decode cX6_colds 32 = .ok (.ireturn, 1) := by decide +kernel
theorem dX6_colds_33 : decode cX6_colds 33 = .ok (.aload_n 0, 1) := by decide +kernel
theorem dX6_colds_34 : decode cX6_colds 34 = .ok (.invokevirtual 160, 3) := by decide +kernel
theorem dX6_colds_37 : decode cX6_colds 37 = .ok (.istore 4, 2) := by decide +kernel
theorem dX6_colds_39 : decode cX6_colds 39 = .ok (.iconst 0, 1) := by decide +kernel
theorem dX6_colds_40 : decode cX6_colds 40 = .ok (.istore 5, 2) := by decide +kernel
theorem dX6_colds_42 : decode cX6_colds 42 = .ok (.iconst 1, 1) := by decide +kernel
theorem dX6_colds_43 : decode cX6_colds 43 = .ok (.istore 6, 2) := by decide +kernel
theorem dX6_colds_45 : decode cX6_colds 45 = .ok (.iconst 0, 1) := by decide +kernel
theorem dX6_colds_46 : decode cX6_colds 46 = .ok (.istore 7, 2) := by decide +kernel
theorem dX6_colds_48 : decode cX6_colds 48 = .ok (.iload 7, 2) := by decide +kernel
theorem dX6_colds_50 : decode cX6_colds 50 = .ok (.iload 4, 2) := by decide +kernel
theorem dX6_colds_52 : decode cX6_colds 52 = .ok (.invokestatic 140, 3) := by decide +kernel
theorem dX6_colds_55 : decode cX6_colds 55 = .ok (.if_icmp .ge 16, 3) := by decide +kernel
theorem dX6_colds_58 : decode cX6_colds 58 = .ok (.iload 6, 2) := by decide +kernel
theorem dX6_colds_60 : decode cX6_colds 60 = .ok (.bipush 10, 2) := by decide +kernel
theorem dX6_colds_62 : decode cX6_colds 62 = .ok (.imul, 1) := by decide +kernel
theorem dX6_colds_63 : decode cX6_colds 63 = .ok (.istore 6, 2) := by decide +kernel
theorem dX6_colds_65 : decode cX6_colds 65 = .ok (.iinc 7 1, 3) := by decide +kernel
theorem dX6_colds_68 : decode cX6_colds 68 = .ok (.goto (-20), 3) := by decide +kernel
theorem dX6_colds_71 : decode cX6_colds 71 = .ok (.iconst 0, 1) := by decide +kernel
theorem dX6_colds_72 : decode cX6_colds 72 = .ok (.istore 7, 2) := by decide +kernel
theorem dX6_colds_74 : decode cX6_colds 74 = .ok (.iload 7, 2) := by decide +kernel
theorem dX6_colds_76 : decode cX6_colds 76 = .ok (.aload_n 0, 1) := by decide +kernel
theorem dX6_colds_77 : decode cX6_colds 77 = .ok (.invokevirtual 136, 3) := by decide +kernel
theorem dX6_colds_80 : decode cX6_colds 80 = .ok (.if_icmp .gt 100, 3) := by decide +kernel
theorem dX6_colds_83 : decode cX6_colds 83 = .ok (.iload 7, 2) := by decide +kernel
theorem dX6_colds_85 : decode cX6_colds 85 = .ok (.iload 4, 2) := by decide +kernel
theorem dX6_colds_87 : decode cX6_colds 87 = .ok (.iconst (-1), 1) := by decide +kernel
theorem dX6_colds_88 : decode cX6_colds 88 = .ok (.ixor, 1) := by decide +kernel
theorem dX6_colds_89 : decode cX6_colds 89 = .ok (.iand, 1) := by decide +kernel
theorem dX6_colds_90 : decode cX6_colds 90 = .ok (.ifCond .ne 84, 3) := by decide +kernel
theorem dX6_colds_93 : decode cX6_colds 93 = .ok (.iconst 1, 1) := by decide +kernel
theorem dX6_colds_94 : decode cX6_colds 94 = .ok (.istore 8, 2) := by decide +kernel
theorem dX6_colds_96 : decode cX6_colds 96 = .ok (.iconst 0, 1) := by decide +kernel
theorem dX6_colds_97 : decode cX6_colds 97 = .ok (.istore 9, 2) := by decide +kernel
theorem dX6_colds_99 : decode cX6_colds 99 = .ok (.iload 9, 2) := by decide +kernel
theorem dX6_colds_101 : decode cX6_colds 101 = .ok (.aload_n 0, 1) := by decide +kernel
theorem dX6_colds_102 : decode cX6_colds 102 = .ok (.getfield 19, 3) := by decide +kernel
theorem dX6_colds_105 : decode cX6_colds 105 = .ok (.iconst 0, 1) := by decide +kernel
theorem dX6_colds_106 : decode cX6_colds 106 = .ok (.iaload, 1) := by decide +kernel
theorem dX6_colds_107 : decode cX6_colds 107 = .ok (.if_icmp .ge 46, 3) := by decide +kernel
theorem dX6_colds_110 : decode cX6_colds 110 = .ok (.iload 8, 2) := by decide +kernel
theorem dX6_colds_112 : decode cX6_colds 112 = .ok (.iload 7, 2) := by decide +kernel
theorem dX6_colds_114 : decode cX6_colds 114 = .ok (.iload 9, 2) := by decide +kernel
theorem dX6_colds_116 : decode cX6_colds 116 = .ok (.invokestatic 172, 3) := by decide +kernel
theorem dX6_colds_119 : decode cX6_colds 119 = .ok (.ifCond .eq 10, 3) := by decide +kernel
theorem dX6_colds_122 : decode cX6_colds 122 = .ok (.bipush 10, 2) := by decide +kernel
theorem dX6_colds_124 : decode cX6_colds 124 = .ok (.iload_n 2, 1) := by decide +kernel
theorem dX6_colds_125 : decode cX6_colds 125 = .ok (.isub, 1) := by decide +kernel
theorem dX6_colds_126 : decode cX6_colds 126 = .ok (.goto 18, 3) := by decide +kernel
theorem dX6_colds_129 : decode cX6_colds 129 = .ok (.iload 4, 2) := by decide +kernel
theorem dX6_colds_131 : decode cX6_colds 131 = .ok (.iload 9, 2) := by decide +kernel
theorem dX6_colds_133 : decode cX6_colds 133 = .ok (.invokestatic 172, 3) := by decide +kernel
theorem dX6_colds_136 : decode cX6_colds 136 = .ok (.ifCond .eq 7, 3) := by decide +kernel
theorem dX6_colds_139 : decode cX6_colds 139 = .ok (.iload_n 2, 1) := by decide +kernel
theorem dX6_colds_140 : decode cX6_colds 140 = .ok (.goto 4, 3) := by decide +kernel
theorem dX6_colds_143 : decode cX6_colds 143 = .ok (.iconst 1, 1) := by decide +kernel
theorem dX6_colds_144 : decode cX6_colds 144 = .ok (.imul, 1) := by decide +kernel
theorem dX6_colds_145 : decode cX6_colds 145 = .ok (.istore 8, 2) := by decide +kernel
theorem dX6_colds_147 : decode cX6_colds 147 = .ok (.iinc 9 1, 3) := by decide +kernel
theorem dX6_colds_150 : decode cX6_colds 150 = .ok (.goto (-51), 3) := by decide +kernel
theorem dX6_colds_153 : decode cX6_colds 153 = .ok (.iload 5, 2) := by decide +kernel
theorem dX6_colds_155 : decode cX6_colds 155 = .ok (.aload_n 0, 1) := by decide +kernel
theorem dX6_colds_156 : decode cX6_colds 156 = .ok (.iload 7, 2) := by decide +kernel
theorem dX6_colds_158 : decode cX6_colds 158 = .ok (.invokevirtual 163, 3) := by decide +kernel
theorem dX6_colds_161 : decode cX6_colds 161 = .ok (.iload_n 1, 1) := by decide +kernel
theorem dX6_colds_162 : decode cX6_colds 162 = .ok (.if_icmp .lt 8, 3) := by decide +kernel
theorem dX6_colds_165 : decode cX6_colds 165 = .ok (.iload 8, 2) := by decide +kernel
theorem dX6_colds_167 : decode cX6_colds 167 = .ok (.goto 4, 3) := by decide +kernel
theorem dX6_colds_170 : decode cX6_colds 170 = .ok (.iconst 0, 1) := by decide +kernel
theorem dX6_colds_171 : decode cX6_colds 171 = .ok (.iadd, 1) := by decide +kernel
theorem dX6_colds_172 : decode cX6_colds 172 = .ok (.istore 5, 2) := by decide +kernel
theorem dX6_colds_174 : decode cX6_colds 174 = .ok (.iinc 7 1, 3) := by decide +kernel
theorem dX6_colds_177 : decode cX6_colds 177 = .ok (.goto (-103), 3) := by decide +kernel
theorem dX6_colds_180 : decode cX6_colds 180 = .ok (.iload 5, 2) := by decide +kernel
theorem dX6_colds_182 : decode cX6_colds 182 = .ok (.iload 6, 2) := by decide +kernel
theorem dX6_colds_184 : decode cX6_colds 184 = .ok (.invokestatic 182, 3) := by decide +kernel
theorem dX6_colds_187 : decode cX6_colds 187 = .ok (.istore 7, 2) := by decide +kernel
theorem dX6_colds_189 : decode cX6_colds 189 = .ok (.iload_n 3, 1) := by decide +kernel
theorem dX6_colds_190 : decode cX6_colds 190 = .ok (.ifCond .ne 11, 3) := by decide +kernel
theorem dX6_colds_193 : decode cX6_colds 193 = .ok (.iload 5, 2) := by decide +kernel
theorem dX6_colds_195 : decode cX6_colds 195 = .ok (.iload 7, 2) := by decide +kernel
theorem dX6_colds_197 : decode cX6_colds 197 = .ok (.idiv, 1) := by decide +kernel
theorem dX6_colds_198 : decode cX6_colds 198 = .ok (.goto 8, 3) := by decide +kernel
theorem dX6_colds_201 : decode cX6_colds 201 = .ok (.iload 6, 2) := by decide +kernel
theorem dX6_colds_203 : decode cX6_colds 203 = .ok (.iload 7, 2) := by decide +kernel
theorem dX6_colds_205 : decode cX6_colds 205 = .ok (.idiv, 1) := by decide +kernel
theorem dX6_colds_206 : decode cX6_colds 206 = .ok (.ireturn, 1) := by decide +kernel
set_option maxRecDepth 20000 in
theorem ggX6_image_X6_in : GoodIn wsX6_image wsX6_in := goodIn_r _ [10] (by decide +kernel) (by decide +kernel)
set_option maxRecDepth 20000 in
theorem gX6_image_X6_in : GoodIn wsX6_image (va_wsS RX6 51 yX6_in wsX6_in) := goodIn_app (goodIn_of _ (by decide +kernel)) ggX6_image_X6_in
theorem dX6_image_0 : decode cX6_image 0 = .ok (.iload_n 1, 1) := by decide +kernel
theorem dX6_image_1 : decode cX6_image 1 = .ok (.i2l, 1) := by decide +kernel
theorem dX6_image_2 : decode cX6_image 2 = .ok (.lconst 0, 1) := by decide +kernel
theorem dX6_image_3 : decode cX6_image 3 = .ok (.lconst 1, 1) := by decide +kernel
theorem dX6_image_4 : decode cX6_image 4 = .ok (.invokestatic 51, 3) := by decide +kernel
theorem dX6_image_7 : decode cX6_image 7 = .ok (.ifCond .ne 6, 3) := by decide +kernel
theorem dX6_image_10 : decode cX6_image 10 = .ok (.ldc 61, 2) := by decide +kernel
theorem dX6_image_12 : decode cX6_image 12 = .ok (.ireturn, 1) := by decide +kernel
theorem dX6_image_13 : decode cX6_image 13 = .ok (.aload_n 0, 1) := by decide +kernel
theorem dX6_image_14 : decode cX6_image 14 = .ok (.getfield 129, 3) := by decide +kernel
theorem dX6_image_17 : decode cX6_image 17 = .ok (.ifCond .ne 6, 3) := by decide +kernel
theorem dX6_image_20 : decode cX6_image 20 = .ok (.ldc 150, 2) := by decide +kernel
theorem dX6_image_22 : decode cX6_image 22 = .ok (.ireturn, 1) := by decide +kernel
theorem dX6_image_23 : decode cX6_image 23 = .ok (.iconst 0, 1) := by decide +kernel
theorem dX6_image_24 : decode cX6_image 24 = .ok (.istore_n 2, 1) := by decide +kernel
theorem dX6_image_25 : decode cX6_image 25 = .ok (.iload_n 2, 1) := by decide +kernel
theorem dX6_image_26 : decode cX6_image 26 = .ok (.bipush 29, 2) := by decide +kernel
theorem dX6_image_28 : decode cX6_image 28 = .ok (.if_icmp .ge 26, 3) := by decide +kernel
theorem dX6_image_31 : decode cX6_image 31 = .ok (.aload_n 0, 1) := by decide +kernel
theorem dX6_image_32 : decode cX6_image 32 = .ok (.getfield 38, 3) := by decide +kernel
theorem dX6_image_35 : decode cX6_image 35 = .ok (.bipush 29, 2) := by decide +kernel
theorem dX6_image_37 : decode cX6_image 37 = .ok (.iload_n 1, 1) := by decide +kernel
theorem dX6_image_38 : decode cX6_image 38 = .ok (.imul, 1) := by decide +kernel
theorem dX6_image_39 : decode cX6_image 39 = .ok (.iload_n 2, 1) := by decide +kernel
theorem dX6_image_40 : decode cX6_image 40 = .ok (.iadd, 1) := by decide +kernel
theorem dX6_image_41 : decode cX6_image 41 = .ok (.aload_n 0, 1) := by decide +kernel
theorem dX6_image_42 : decode cX6_image 42 = .ok (.getfield 19, 3) := by decide +kernel
theorem dX6_image_45 : decode cX6_image 45 = .ok (.iload_n 2, 1) := by decide +kernel
theorem dX6_image_46 : decode cX6_image 46 = .ok (.iaload, 1) := by decide +kernel
theorem dX6_image_47 : decode cX6_image 47 = .ok (.iastore, 1) := by decide +kernel
theorem dX6_image_48 : decode cX6_image 48 = .ok (.iinc 2 1, 3) := by decide +kernel
theorem dX6_image_51 : decode cX6_image 51 = .ok (.goto (-26), 3) := by decide +kernel
theorem dX6_image_54 : decode cX6_image 54 = .ok (.aload_n 0, 1) := by decide +kernel
theorem dX6_image_55 : decode cX6_image 55 = .ok (.getfield 34, 3) := by decide +kernel
theorem dX6_image_58 : decode cX6_image 58 = .ok (.iload_n 1, 1) := by decide +kernel
theorem dX6_image_59 : decode cX6_image 59 = .ok (.iconst 1, 1) := by decide +kernel
theorem dX6_image_60 : decode cX6_image 60 = .ok (.bastore, 1) := by decide +kernel
theorem dX6_image_61 : decode cX6_image 61 = .ok (.iconst 1, 1) := by decide +kernel
theorem dX6_image_62 : decode cX6_image 62 = .ok (.ireturn, 1) := by decide +kernel
set_option maxRecDepth 20000 in
theorem ggX6_restore_X6_in : GoodIn wsX6_restore wsX6_in := goodIn_r _ [10] (by decide +kernel) (by decide +kernel)
set_option maxRecDepth 20000 in
theorem gX6_restore_X6_in : GoodIn wsX6_restore (va_wsS RX6 51 yX6_in wsX6_in) := goodIn_app (goodIn_of _ (by decide +kernel)) ggX6_restore_X6_in
theorem dX6_restore_0 : decode cX6_restore 0 = .ok (.iload_n 1, 1) := by decide +kernel
theorem dX6_restore_1 : decode cX6_restore 1 = .ok (.i2l, 1) := by decide +kernel
theorem dX6_restore_2 : decode cX6_restore 2 = .ok (.lconst 0, 1) := by decide +kernel
theorem dX6_restore_3 : decode cX6_restore 3 = .ok (.lconst 1, 1) := by decide +kernel
theorem dX6_restore_4 : decode cX6_restore 4 = .ok (.invokestatic 51, 3) := by decide +kernel
theorem dX6_restore_7 : decode cX6_restore 7 = .ok (.ifCond .ne 6, 3) := by decide +kernel
theorem dX6_restore_10 : decode cX6_restore 10 = .ok (.ldc 61, 2) := by decide +kernel
theorem dX6_restore_12 : decode cX6_restore 12 = .ok (.ireturn, 1) := by decide +kernel
theorem dX6_restore_13 : decode cX6_restore 13 = .ok (.aload_n 0, 1) := by decide +kernel
theorem dX6_restore_14 : decode cX6_restore 14 = .ok (.getfield 34, 3) := by decide +kernel
theorem dX6_restore_17 : decode cX6_restore 17 = .ok (.iload_n 1, 1) := by decide +kernel
theorem dX6_restore_18 : decode cX6_restore 18 = .ok (.baload, 1) := by decide +kernel
theorem dX6_restore_19 : decode cX6_restore 19 = .ok (.ifCond .ne 6, 3) := by decide +kernel
theorem dX6_restore_22 : decode cX6_restore 22 = .ok (.ldc 150, 2) := by decide +kernel
theorem dX6_restore_24 : decode cX6_restore 24 = .ok (.ireturn, 1) := by decide +kernel
theorem dX6_restore_25 : decode cX6_restore 25 = .ok (.iconst 0, 1) := by decide +kernel
theorem dX6_restore_26 : decode cX6_restore 26 = .ok (.istore_n 2, 1) := by decide +kernel
theorem dX6_restore_27 : decode cX6_restore 27 = .ok (.iload_n 2, 1) := by decide +kernel
theorem dX6_restore_28 : decode cX6_restore 28 = .ok (.bipush 29, 2) := by decide +kernel
theorem dX6_restore_30 : decode cX6_restore 30 = .ok (.if_icmp .ge 26, 3) := by decide +kernel
theorem dX6_restore_33 : decode cX6_restore 33 = .ok (.aload_n 0, 1) := by decide +kernel
theorem dX6_restore_34 : decode cX6_restore 34 = .ok (.getfield 19, 3) := by decide +kernel
theorem dX6_restore_37 : decode cX6_restore 37 = .ok (.iload_n 2, 1) := by decide +kernel
theorem dX6_restore_38 : decode cX6_restore 38 = .ok (.aload_n 0, 1) := by decide +kernel
theorem dX6_restore_39 : decode cX6_restore 39 = .ok (.getfield 38, 3) := by decide +kernel
theorem dX6_restore_42 : decode cX6_restore 42 = .ok (.bipush 29, 2) := by decide +kernel
theorem dX6_restore_44 : decode cX6_restore 44 = .ok (.iload_n 1, 1) := by decide +kernel
theorem dX6_restore_45 : decode cX6_restore 45 = .ok (.imul, 1) := by decide +kernel
theorem dX6_restore_46 : decode cX6_restore 46 = .ok (.iload_n 2, 1) := by decide +kernel
theorem dX6_restore_47 : decode cX6_restore 47 = .ok (.iadd, 1) := by decide +kernel
theorem dX6_restore_48 : decode cX6_restore 48 = .ok (.iaload, 1) := by decide +kernel
theorem dX6_restore_49 : decode cX6_restore 49 = .ok (.iastore, 1) := by decide +kernel
theorem dX6_restore_50 : decode cX6_restore 50 = .ok (.iinc 2 1, 3) := by decide +kernel
theorem dX6_restore_53 : decode cX6_restore 53 = .ok (.goto (-26), 3) := by decide +kernel
theorem dX6_restore_56 : decode cX6_restore 56 = .ok (.aload_n 0, 1) := by decide +kernel
theorem dX6_restore_57 : decode cX6_restore 57 = .ok (.iconst 0, 1) := by decide +kernel
theorem dX6_restore_58 : decode cX6_restore 58 = .ok (.putfield 133, 3) := by decide +kernel
theorem dX6_restore_61 : decode cX6_restore 61 = .ok (.iconst 1, 1) := by decide +kernel
theorem dX6_restore_62 : decode cX6_restore 62 = .ok (.ireturn, 1) := by decide +kernel
set_option maxRecDepth 20000 in
theorem ggX6_kind_X6_isTie : GoodIn wsX6_kind wsX6_isTie := goodIn_r _ [7, 1, 8, 9, 6, 10, 11, 12, 13, 14, 15, 16, 17, 18, 19, 20, 21, 22, 23, 24, 25, 26, 27, 28, 29, 30, 31, 32] (by decide +kernel) (by decide +kernel)
set_option maxRecDepth 20000 in
theorem gX6_kind_X6_isTie : GoodIn wsX6_kind (wsV RX6 166 RX6 yX6_isTie wsX6_isTie) := goodIn_app (goodIn_of _ (by decide +kernel)) ggX6_kind_X6_isTie
theorem dX6_kind_0 : decode cX6_kind 0 = .ok (.aload_n 0, 1) := by decide +kernel
theorem dX6_kind_1 : decode cX6_kind 1 = .ok (.iload_n 1, 1) := by decide +kernel
theorem dX6_kind_2 : decode cX6_kind 2 = .ok (.invokevirtual 166, 3) := by decide +kernel
theorem dX6_kind_5 : decode cX6_kind 5 = .ok (.ifCond .eq 14, 3) := by decide +kernel
theorem dX6_kind_8 : decode cX6_kind 8 = .ok (.aload_n 0, 1) := by decide +kernel
theorem dX6_kind_9 : decode cX6_kind 9 = .ok (.getfield 19, 3) := by decide +kernel
theorem dX6_kind_12 : decode cX6_kind 12 = .ok (.iconst 5, 1) := by decide +kernel
theorem dX6_kind_13 : decode cX6_kind 13 = .ok (.iload_n 1, 1) := by decide +kernel
theorem dX6_kind_14 : decode cX6_kind 14 = .ok (.iadd, 1) := by decide +kernel
theorem dX6_kind_15 : decode cX6_kind 15 = .ok (.iaload, 1) := by decide +kernel
theorem dX6_kind_16 : decode cX6_kind 16 = .ok (.goto 5, 3) := by decide +kernel
theorem dX6_kind_19 : decode cX6_kind 19 = .ok (.ldc 61, 2) := by decide +kernel
theorem dX6_kind_21 : decode cX6_kind 21 = .ok (.ireturn, 1) := by decide +kernel
theorem dX6_isKind_0 : decode cX6_isKind 0 = .ok (.iload_n 1, 1) := by decide +kernel
theorem dX6_isKind_1 : decode cX6_isKind 1 = .ok (.ifCond .eq 28, 3) := by decide +kernel
theorem dX6_isKind_4 : decode cX6_isKind 4 = .ok (.iload_n 0, 1) := by decide +kernel
theorem dX6_isKind_5 : decode cX6_isKind 5 = .ok (.iload_n 1, 1) := by decide +kernel
theorem dX6_isKind_6 : decode cX6_isKind 6 = .ok (.if_icmp .eq 23, 3) := by decide +kernel
theorem dX6_isKind_9 : decode cX6_isKind 9 = .ok (.iload_n 1, 1) := by decide +kernel
theorem dX6_isKind_10 : decode cX6_isKind 10 = .ok (.iconst 1, 1) := by decide +kernel
theorem dX6_isKind_11 : decode cX6_isKind 11 = .ok (.if_icmp .ne 8, 3) := by decide +kernel
theorem dX6_isKind_14 : decode cX6_isKind 14 = .ok (.iload_n 0, 1) := by decide +kernel
theorem dX6_isKind_15 : decode cX6_isKind 15 = .ok (.iconst 4, 1) := by decide +kernel
theorem dX6_isKind_16 : decode cX6_isKind 16 = .ok (.if_icmp .lt 13, 3) := by decide +kernel
theorem dX6_isKind_19 : decode cX6_isKind 19 = .ok (.iload_n 1, 1) := by decide +kernel
theorem dX6_isKind_20 : decode cX6_isKind 20 = .ok (.iconst 4, 1) := by decide +kernel
theorem dX6_isKind_21 : decode cX6_isKind 21 = .ok (.if_icmp .ne 12, 3) := by decide +kernel
theorem dX6_isKind_24 : decode cX6_isKind 24 = .ok (.iload_n 0, 1) := by decide +kernel
theorem dX6_isKind_25 : decode cX6_isKind 25 = .ok (.iconst 5, 1) := by decide +kernel
theorem dX6_isKind_26 : decode cX6_isKind 26 = .ok (.if_icmp .ne 7, 3) := by decide +kernel
theorem dX6_isKind_29 : decode cX6_isKind 29 = .ok (.iconst 1, 1) := by decide +kernel
theorem dX6_isKind_30 : decode cX6_isKind 30 = .ok (.goto 4, 3) := by decide +kernel
theorem dX6_isKind_33 : decode cX6_isKind 33 = .ok (.iconst 0, 1) := by decide +kernel
theorem dX6_isKind_34 : decode cX6_isKind 34 = .ok (.ireturn, 1) := by decide +kernel
set_option maxRecDepth 20000 in
theorem ggX6_as_X6_isTie : GoodIn wsX6_as wsX6_isTie := goodIn_r _ [8, 3, 9, 10, 7, 11, 25, 26, 27, 28, 29, 30, 31, 32, 33, 34, 35, 36, 37, 38, 39, 40, 41, 42, 43, 44, 45, 46] (by decide +kernel) (by decide +kernel)
set_option maxRecDepth 20000 in
theorem gX6_as_X6_isTie : GoodIn wsX6_as (wsV RX6 166 RX6 yX6_isTie wsX6_isTie) := goodIn_app (goodIn_of _ (by decide +kernel)) ggX6_as_X6_isTie
set_option maxRecDepth 20000 in
theorem ggX6_as_X6_in : GoodIn wsX6_as wsX6_in := goodIn_r _ [11] (by decide +kernel) (by decide +kernel)
set_option maxRecDepth 20000 in
theorem gX6_as_X6_in : GoodIn wsX6_as (va_wsS RX6 51 yX6_in wsX6_in) := goodIn_app (goodIn_of _ (by decide +kernel)) ggX6_as_X6_in
set_option maxRecDepth 20000 in
theorem ggX6_as_X6_isKind : GoodIn wsX6_as wsX6_isKind := goodIn_r _ [14] (by decide +kernel) (by decide +kernel)
set_option maxRecDepth 20000 in
theorem gX6_as_X6_isKind : GoodIn wsX6_as (va_wsS RX6 201 yX6_isKind wsX6_isKind) := goodIn_app (goodIn_of _ (by decide +kernel)) ggX6_as_X6_isKind
set_option maxRecDepth 20000 in
theorem ggX6_as_X6_well : GoodIn wsX6_as wsX6_well := goodIn_r _ [18, 19, 25, 26, 27, 28, 29, 30, 31, 32, 33, 34, 35, 36, 37, 38, 39, 40, 41, 42, 43, 44, 45, 46] (by decide +kernel) (by decide +kernel)
set_option maxRecDepth 20000 in
theorem gX6_as_X6_well : GoodIn wsX6_as (wsV RX6 66 RX6 yX6_well wsX6_well) := goodIn_app (goodIn_of _ (by decide +kernel)) ggX6_as_X6_well
set_option maxRecDepth 20000 in
theorem ggX6_as_X6_find : GoodIn wsX6_as wsX6_find := goodIn_r _ [23, 19, 24, 25, 26, 27, 28, 29, 30, 31, 32, 33, 34, 35, 36, 37, 38, 39, 40, 41, 42, 43, 44, 45, 46] (by decide +kernel) (by decide +kernel)
set_option maxRecDepth 20000 in
theorem gX6_as_X6_find : GoodIn wsX6_as (wsV RX6 62 RX6 yX6_find wsX6_find) := goodIn_app (goodIn_of _ (by decide +kernel)) ggX6_as_X6_find
theorem dX6_as_0 : decode cX6_as 0 = .ok (.aload_n 0, 1) := by decide +kernel
theorem dX6_as_1 : decode cX6_as 1 = .ok (.iload_n 1, 1) := by decide +kernel
theorem dX6_as_2 : decode cX6_as 2 = .ok (.invokevirtual 166, 3) := by decide +kernel
theorem dX6_as_5 : decode cX6_as 5 = .ok (.ifCond .eq 15, 3) := by decide +kernel
theorem dX6_as_8 : decode cX6_as 8 = .ok (.iload_n 2, 1) := by decide +kernel
theorem dX6_as_9 : decode cX6_as 9 = .ok (.i2l, 1) := by decide +kernel
theorem dX6_as_10 : decode cX6_as 10 = .ok (.lconst 0, 1) := by decide +kernel
theorem dX6_as_11 : decode cX6_as 11 = .ok (.ldc2_w 154, 3) := by decide +kernel
theorem dX6_as_14 : decode cX6_as 14 = .ok (.invokestatic 51, 3) := by decide +kernel
theorem dX6_as_17 : decode cX6_as 17 = .ok (.ifCond .ne 6, 3) := by decide +kernel
theorem dX6_as_20 : decode cX6_as 20 = .ok (.ldc 61, 2) := by decide +kernel
theorem dX6_as_22 : decode cX6_as 22 = .ok (.ireturn, 1) := by decide +kernel
theorem dX6_as_23 : decode cX6_as 23 = .ok (.aload_n 0, 1) := by decide +kernel
theorem dX6_as_24 : decode cX6_as 24 = .ok (.getfield 19, 3) := by decide +kernel
theorem dX6_as_27 : decode cX6_as 27 = .ok (.iconst 5, 1) := by decide +kernel
theorem dX6_as_28 : decode cX6_as 28 = .ok (.iload_n 1, 1) := by decide +kernel
theorem dX6_as_29 : decode cX6_as 29 = .ok (.iadd, 1) := by decide +kernel
theorem dX6_as_30 : decode cX6_as 30 = .ok (.iaload, 1) := by decide +kernel
theorem dX6_as_31 : decode cX6_as 31 = .ok (.iload_n 2, 1) := by decide +kernel
theorem dX6_as_32 : decode cX6_as 32 = .ok (.invokestatic 201, 3) := by decide +kernel
theorem dX6_as_35 : decode cX6_as 35 = .ok (.ifCond .eq 11, 3) := by decide +kernel
theorem dX6_as_38 : decode cX6_as 38 = .ok (.aload_n 0, 1) := by decide +kernel
theorem dX6_as_39 : decode cX6_as 39 = .ok (.iload_n 1, 1) := by decide +kernel
theorem dX6_as_40 : decode cX6_as 40 = .ok (.invokevirtual 66, 3) := by decide +kernel
theorem dX6_as_43 : decode cX6_as 43 = .ok (.goto 8, 3) := by decide +kernel
theorem dX6_as_46 : decode cX6_as 46 = .ok (.aload_n 0, 1) := by decide +kernel
theorem dX6_as_47 : decode cX6_as 47 = .ok (.iconst 3, 1) := by decide +kernel
theorem dX6_as_48 : decode cX6_as 48 = .ok (.invokevirtual 62, 3) := by decide +kernel
theorem dX6_as_51 : decode cX6_as 51 = .ok (.ireturn, 1) := by decide +kernel
theorem dX6_begin_0 : decode cX6_begin 0 = .ok (.aload_n 0, 1) := by decide +kernel
theorem dX6_begin_1 : decode cX6_begin 1 = .ok (.getfield 204, 3) := by decide +kernel
theorem dX6_begin_4 : decode cX6_begin 4 = .ok (.bipush 16, 2) := by decide +kernel
theorem dX6_begin_6 : decode cX6_begin 6 = .ok (.if_icmp .ge 23, 3) := by decide +kernel
theorem dX6_begin_9 : decode cX6_begin 9 = .ok (.aload_n 0, 1) := by decide +kernel
theorem dX6_begin_10 : decode cX6_begin 10 = .ok (.getfield 41, 3) := by decide +kernel
theorem dX6_begin_13 : decode cX6_begin 13 = .ok (.aload_n 0, 1) := by decide +kernel
theorem dX6_begin_14 : decode cX6_begin 14 = .ok (.getfield 204, 3) := by decide +kernel
theorem dX6_begin_17 : decode cX6_begin 17 = .ok (.iload_n 1, 1) := by decide +kernel
theorem dX6_begin_18 : decode cX6_begin 18 = .ok (.iastore, 1) := by decide +kernel
theorem dX6_begin_19 : decode cX6_begin 19 = .ok (.aload_n 0, 1) := by decide +kernel
theorem dX6_begin_20 : decode cX6_begin 20 = .ok (.dup, 1) := by decide +kernel
theorem dX6_begin_21 : decode cX6_begin 21 = .ok (.getfield 204, 3) := by decide +kernel
theorem dX6_begin_24 : decode cX6_begin 24 = .ok (.iconst 1, 1) := by decide +kernel
theorem dX6_begin_25 : decode cX6_begin 25 = .ok (.iadd, 1) := by decide +kernel
theorem dX6_begin_26 : decode cX6_begin 26 = .ok (.putfield 204, 3) := by decide +kernel
theorem dX6_begin_29 : decode cX6_begin 29 = .ok (.return_, 1) := by decide +kernel
set_option maxRecDepth 20000 in
theorem ggX6_lent_X6_begin : GoodIn wsX6_lent wsX6_begin := goodIn_r _ [6, 7, 8, 9, 10, 11, 12, 13, 14, 15, 16, 17, 18, 19, 20, 21, 22, 23, 24, 25, 26, 27, 28, 29, 30] (by decide +kernel) (by decide +kernel)
set_option maxRecDepth 20000 in
theorem gX6_lent_X6_begin : GoodIn wsX6_lent (wsV RX6 207 RX6 yX6_begin wsX6_begin) := goodIn_app (goodIn_of _ (by decide +kernel)) ggX6_lent_X6_begin
theorem dX6_lent_0 : decode cX6_lent 0 = .ok (.aload_n 0, 1) := by decide +kernel
theorem dX6_lent_1 : decode cX6_lent 1 = .ok (.iload_n 2, 1) := by decide +kernel
theorem dX6_lent_2 : decode cX6_lent 2 = .ok (.invokevirtual 207, 3) := by decide +kernel
theorem dX6_lent_5 : decode cX6_lent 5 = .ok (.iload_n 2, 1) := by decide +kernel
theorem dX6_lent_6 : decode cX6_lent 6 = .ok (.bipush 10, 2) := by decide +kernel
theorem dX6_lent_8 : decode cX6_lent 8 = .ok (.if_icmp .ne 15, 3) := by decide +kernel
theorem dX6_lent_11 : decode cX6_lent 11 = .ok (.aload_n 0, 1) := by decide +kernel
theorem dX6_lent_12 : decode cX6_lent 12 = .ok (.getfield 19, 3) := by decide +kernel
theorem dX6_lent_15 : decode cX6_lent 15 = .ok (.bipush 21, 2) := by decide +kernel
theorem dX6_lent_17 : decode cX6_lent 17 = .ok (.iload_n 1, 1) := by decide +kernel
theorem dX6_lent_18 : decode cX6_lent 18 = .ok (.iadd, 1) := by decide +kernel
theorem dX6_lent_19 : decode cX6_lent 19 = .ok (.iaload, 1) := by decide +kernel
theorem dX6_lent_20 : decode cX6_lent 20 = .ok (.goto 4, 3) := by decide +kernel
theorem dX6_lent_23 : decode cX6_lent 23 = .ok (.iload_n 1, 1) := by decide +kernel
theorem dX6_lent_24 : decode cX6_lent 24 = .ok (.ireturn, 1) := by decide +kernel
set_option maxRecDepth 20000 in
theorem ggX6_allMark_X6_begin : GoodIn wsX6_allMark wsX6_begin := goodIn_r _ [6, 7, 8, 24, 25, 26, 27, 28, 29, 30, 31, 32, 33, 34, 35, 36, 37, 38, 39, 40, 41, 42, 43, 44, 45] (by decide +kernel) (by decide +kernel)
set_option maxRecDepth 20000 in
theorem gX6_allMark_X6_begin : GoodIn wsX6_allMark (wsV RX6 207 RX6 yX6_begin wsX6_begin) := goodIn_app (goodIn_of _ (by decide +kernel)) ggX6_allMark_X6_begin
set_option maxRecDepth 20000 in
theorem ggX6_allMark_X6_lent : GoodIn wsX6_allMark wsX6_lent := goodIn_r _ [12, 1, 2, 3, 4, 5, 6, 7, 8, 24, 25, 26, 27, 28, 29, 30, 31, 32, 33, 34, 35, 36, 37, 38, 39, 40, 41, 42, 43, 44, 45] (by decide +kernel) (by decide +kernel)
set_option maxRecDepth 20000 in
theorem gX6_allMark_X6_lent : GoodIn wsX6_allMark (wsV RX6 211 RX6 yX6_lent wsX6_lent) := goodIn_app (goodIn_of _ (by decide +kernel)) ggX6_allMark_X6_lent
set_option maxRecDepth 20000 in
theorem ggX6_allMark_X6_here : GoodIn wsX6_allMark wsX6_here := goodIn_r _ [16, 1, 17, 18, 19, 5, 20, 24, 25, 26, 27, 28, 29, 30, 31, 32, 33, 34, 35, 36, 37, 38, 39, 40, 41, 42, 43, 44, 45] (by decide +kernel) (by decide +kernel)
set_option maxRecDepth 20000 in
theorem gX6_allMark_X6_here : GoodIn wsX6_allMark (wsV RX6 160 RX6 yX6_here wsX6_here) := goodIn_app (goodIn_of _ (by decide +kernel)) ggX6_allMark_X6_here
set_option maxRecDepth 20000 in
theorem ggX6_allMark_X6_ones : GoodIn wsX6_allMark wsX6_ones := goodIn_r _ [23] (by decide +kernel) (by decide +kernel)
set_option maxRecDepth 20000 in
theorem gX6_allMark_X6_ones : GoodIn wsX6_allMark (va_wsS RX6 140 yX6_ones wsX6_ones) := goodIn_app (goodIn_of _ (by decide +kernel)) ggX6_allMark_X6_ones
theorem dX6_allMark_0 : decode cX6_allMark 0 = .ok (.aload_n 0, 1) := by decide +kernel
theorem dX6_allMark_1 : decode cX6_allMark 1 = .ok (.bipush 21, 2) := by decide +kernel
theorem dX6_allMark_3 : decode cX6_allMark 3 = .ok (.invokevirtual 207, 3) := by decide +kernel
theorem dX6_allMark_6 : decode cX6_allMark 6 = .ok (.aload_n 0, 1) := by decide +kernel
theorem dX6_allMark_7 : decode cX6_allMark 7 = .ok (.iload_n 1, 1) := by decide +kernel
theorem dX6_allMark_8 : decode cX6_allMark 8 = .ok (.bipush 20, 2) := by decide +kernel
theorem dX6_allMark_10 : decode cX6_allMark 10 = .ok (.invokevirtual 211, 3) := by decide +kernel
theorem dX6_allMark_13 : decode cX6_allMark 13 = .ok (.aload_n 0, 1) := by decide +kernel
theorem dX6_allMark_14 : decode cX6_allMark 14 = .ok (.getfield 19, 3) := by decide +kernel
theorem dX6_allMark_17 : decode cX6_allMark 17 = .ok (.bipush 13, 2) := by decide +kernel
theorem dX6_allMark_19 : decode cX6_allMark 19 = .ok (.iload_n 1, 1) := by decide +kernel
theorem dX6_allMark_20 : decode cX6_allMark 20 = .ok (.iadd, 1) := by decide +kernel
theorem dX6_allMark_21 : decode cX6_allMark 21 = .ok (.iaload, 1) := by decide +kernel
theorem dX6_allMark_22 : decode cX6_allMark 22 = .ok (.aload_n 0, 1) := by decide +kernel
theorem dX6_allMark_23 : decode cX6_allMark 23 = .ok (.invokevirtual 160, 3) := by decide +kernel
theorem dX6_allMark_26 : decode cX6_allMark 26 = .ok (.iand, 1) := by decide +kernel
theorem dX6_allMark_27 : decode cX6_allMark 27 = .ok (.invokestatic 140, 3) := by decide +kernel
theorem dX6_allMark_30 : decode cX6_allMark 30 = .ok (.iadd, 1) := by decide +kernel
theorem dX6_allMark_31 : decode cX6_allMark 31 = .ok (.ireturn, 1) := by decide +kernel
set_option maxRecDepth 20000 in
theorem ggX6_anySize_X6_begin : GoodIn wsX6_anySize wsX6_begin := goodIn_r _ [5, 6, 7, 13, 14, 15, 16, 17, 18, 19, 20, 21, 22, 23, 24, 25, 26, 27, 28, 29, 30, 31, 32, 33, 34] (by decide +kernel) (by decide +kernel)
set_option maxRecDepth 20000 in
theorem gX6_anySize_X6_begin : GoodIn wsX6_anySize (wsV RX6 207 RX6 yX6_begin wsX6_begin) := goodIn_app (goodIn_of _ (by decide +kernel)) ggX6_anySize_X6_begin
set_option maxRecDepth 20000 in
theorem ggX6_anySize_X6_lent : GoodIn wsX6_anySize wsX6_lent := goodIn_r _ [11, 12, 1, 2, 3, 4, 5, 6, 7, 13, 14, 15, 16, 17, 18, 19, 20, 21, 22, 23, 24, 25, 26, 27, 28, 29, 30, 31, 32, 33, 34] (by decide +kernel) (by decide +kernel)
set_option maxRecDepth 20000 in
theorem gX6_anySize_X6_lent : GoodIn wsX6_anySize (wsV RX6 211 RX6 yX6_lent wsX6_lent) := goodIn_app (goodIn_of _ (by decide +kernel)) ggX6_anySize_X6_lent
theorem dX6_anySize_0 : decode cX6_anySize 0 = .ok (.aload_n 0, 1) := by decide +kernel
theorem dX6_anySize_1 : decode cX6_anySize 1 = .ok (.bipush 13, 2) := by decide +kernel
theorem dX6_anySize_3 : decode cX6_anySize 3 = .ok (.invokevirtual 207, 3) := by decide +kernel
theorem dX6_anySize_6 : decode cX6_anySize 6 = .ok (.aload_n 0, 1) := by decide +kernel
theorem dX6_anySize_7 : decode cX6_anySize 7 = .ok (.iload_n 1, 1) := by decide +kernel
theorem dX6_anySize_8 : decode cX6_anySize 8 = .ok (.bipush 10, 2) := by decide +kernel
theorem dX6_anySize_10 : decode cX6_anySize 10 = .ok (.invokevirtual 211, 3) := by decide +kernel
theorem dX6_anySize_13 : decode cX6_anySize 13 = .ok (.bipush 100, 2) := by decide +kernel
theorem dX6_anySize_15 : decode cX6_anySize 15 = .ok (.isub, 1) := by decide +kernel
theorem dX6_anySize_16 : decode cX6_anySize 16 = .ok (.ireturn, 1) := by decide +kernel
set_option maxRecDepth 20000 in
theorem ggX6_sizeOfAny_X6_begin : GoodIn wsX6_sizeOfAny wsX6_begin := goodIn_r _ [6, 7, 8, 17, 18, 19, 20, 21, 22, 23, 24, 25, 26, 27, 28, 29, 30, 31, 32, 33, 34, 35, 36, 37, 38] (by decide +kernel) (by decide +kernel)
set_option maxRecDepth 20000 in
theorem gX6_sizeOfAny_X6_begin : GoodIn wsX6_sizeOfAny (wsV RX6 207 RX6 yX6_begin wsX6_begin) := goodIn_app (goodIn_of _ (by decide +kernel)) ggX6_sizeOfAny_X6_begin
set_option maxRecDepth 20000 in
theorem ggX6_sizeOfAny_X6_anySize : GoodIn wsX6_sizeOfAny wsX6_anySize := goodIn_r _ [12, 2, 3, 4, 5, 6, 7, 8, 13, 14, 15, 16, 1, 17, 18, 19, 20, 21, 22, 23, 24, 25, 26, 27, 28, 29, 30, 31, 32, 33, 34, 35, 36, 37, 38] (by decide +kernel) (by decide +kernel)
set_option maxRecDepth 20000 in
theorem gX6_sizeOfAny_X6_anySize : GoodIn wsX6_sizeOfAny (wsV RX6 214 RX6 yX6_anySize wsX6_anySize) := goodIn_app (goodIn_of _ (by decide +kernel)) ggX6_sizeOfAny_X6_anySize
theorem dX6_sizeOfAny_0 : decode cX6_sizeOfAny 0 = .ok (.aload_n 0, 1) := by decide +kernel
theorem dX6_sizeOfAny_1 : decode cX6_sizeOfAny 1 = .ok (.getfield 19, 3) := by decide +kernel
theorem dX6_sizeOfAny_4 : decode cX6_sizeOfAny 4 = .ok (.iconst 5, 1) := by decide +kernel
theorem dX6_sizeOfAny_5 : decode cX6_sizeOfAny 5 = .ok (.iload_n 1, 1) := by decide +kernel
theorem dX6_sizeOfAny_6 : decode cX6_sizeOfAny 6 = .ok (.iadd, 1) := by decide +kernel
theorem dX6_sizeOfAny_7 : decode cX6_sizeOfAny 7 = .ok (.iaload, 1) := by decide +kernel
theorem dX6_sizeOfAny_8 : decode cX6_sizeOfAny 8 = .ok (.iconst 5, 1) := by decide +kernel
theorem dX6_sizeOfAny_9 : decode cX6_sizeOfAny 9 = .ok (.if_icmp .ne 17, 3) := by decide +kernel
theorem dX6_sizeOfAny_12 : decode cX6_sizeOfAny 12 = .ok (.aload_n 0, 1) := by decide +kernel
theorem dX6_sizeOfAny_13 : decode cX6_sizeOfAny 13 = .ok (.bipush 14, 2) := by decide +kernel
theorem dX6_sizeOfAny_15 : decode cX6_sizeOfAny 15 = .ok (.invokevirtual 207, 3) := by decide +kernel
theorem dX6_sizeOfAny_18 : decode cX6_sizeOfAny 18 = .ok (.iconst 2, 1) := by decide +kernel
theorem dX6_sizeOfAny_19 : decode cX6_sizeOfAny 19 = .ok (.aload_n 0, 1) := by decide +kernel
theorem dX6_sizeOfAny_20 : decode cX6_sizeOfAny 20 = .ok (.iload_n 1, 1) := by decide +kernel
theorem dX6_sizeOfAny_21 : decode cX6_sizeOfAny 21 = .ok (.invokevirtual 214, 3) := by decide +kernel
theorem dX6_sizeOfAny_24 : decode cX6_sizeOfAny 24 = .ok (.imul, 1) := by decide +kernel
theorem dX6_sizeOfAny_25 : decode cX6_sizeOfAny 25 = .ok (.ireturn, 1) := by decide +kernel
theorem dX6_sizeOfAny_26 : decode cX6_sizeOfAny 26 = .ok (.aload_n 0, 1) := by decide +kernel
theorem dX6_sizeOfAny_27 : decode cX6_sizeOfAny 27 = .ok (.iload_n 1, 1) := by decide +kernel
theorem dX6_sizeOfAny_28 : decode cX6_sizeOfAny 28 = .ok (.invokevirtual 214, 3) := by decide +kernel
theorem dX6_sizeOfAny_31 : decode cX6_sizeOfAny 31 = .ok (.ireturn, 1) := by decide +kernel
set_option maxRecDepth 20000 in
theorem ggX6_markOf_X6_begin : GoodIn wsX6_markOf wsX6_begin := goodIn_r _ [6, 7, 8, 36, 37, 38, 39, 40, 41, 42, 43, 44, 45, 46, 47, 48, 49, 50, 51, 52, 53, 54, 55, 56, 57] (by decide +kernel) (by decide +kernel)
set_option maxRecDepth 20000 in
theorem gX6_markOf_X6_begin : GoodIn wsX6_markOf (wsV RX6 207 RX6 yX6_begin wsX6_begin) := goodIn_app (goodIn_of _ (by decide +kernel)) ggX6_markOf_X6_begin
set_option maxRecDepth 20000 in
theorem ggX6_markOf_X6_allMark : GoodIn wsX6_markOf wsX6_allMark := goodIn_r _ [12, 1, 2, 3, 4, 5, 6, 7, 8, 13, 14, 15, 16, 17, 18, 19, 20, 21, 22, 23, 24, 25, 26, 27, 36, 37, 38, 39, 40, 41, 42, 43, 44, 45, 46, 47, 48, 49, 50, 51, 52, 53, 54, 55, 56, 57] (by decide +kernel) (by decide +kernel)
set_option maxRecDepth 20000 in
theorem gX6_markOf_X6_allMark : GoodIn wsX6_markOf (wsV RX6 217 RX6 yX6_allMark wsX6_allMark) := goodIn_app (goodIn_of _ (by decide +kernel)) ggX6_markOf_X6_allMark
set_option maxRecDepth 20000 in
theorem ggX6_markOf_X6_lent : GoodIn wsX6_markOf wsX6_lent := goodIn_r _ [16, 1, 2, 3, 4, 5, 6, 7, 8, 36, 37, 38, 39, 40, 41, 42, 43, 44, 45, 46, 47, 48, 49, 50, 51, 52, 53, 54, 55, 56, 57] (by decide +kernel) (by decide +kernel)
set_option maxRecDepth 20000 in
theorem gX6_markOf_X6_lent : GoodIn wsX6_markOf (wsV RX6 211 RX6 yX6_lent wsX6_lent) := goodIn_app (goodIn_of _ (by decide +kernel)) ggX6_markOf_X6_lent
set_option maxRecDepth 20000 in
theorem ggX6_markOf_X6_sizeOfAny : GoodIn wsX6_markOf wsX6_sizeOfAny := goodIn_r _ [31, 1, 2, 3, 4, 5, 6, 7, 8, 32, 33, 34, 35, 13, 14, 15, 16, 36, 37, 38, 39, 40, 41, 42, 43, 44, 45, 46, 47, 48, 49, 50, 51, 52, 53, 54, 55, 56, 57] (by decide +kernel) (by decide +kernel)
set_option maxRecDepth 20000 in
theorem gX6_markOf_X6_sizeOfAny : GoodIn wsX6_markOf (wsV RX6 220 RX6 yX6_sizeOfAny wsX6_sizeOfAny) := goodIn_app (goodIn_of _ (by decide +kernel)) ggX6_markOf_X6_sizeOfAny
theorem dX6_markOf_0 : decode cX6_markOf 0 = .ok (.aload_n 0, 1) := by decide +kernel
theorem dX6_markOf_1 : decode cX6_markOf 1 = .ok (.getfield 19, 3) := by decide +kernel
theorem dX6_markOf_4 : decode cX6_markOf 4 = .ok (.iconst 5, 1) := by decide +kernel
theorem dX6_markOf_5 : decode cX6_markOf 5 = .ok (.iload_n 1, 1) := by decide +kernel
theorem dX6_markOf_6 : decode cX6_markOf 6 = .ok (.iadd, 1) := by decide +kernel
theorem dX6_markOf_7 : decode cX6_markOf 7 = .ok (.iaload, 1) := by decide +kernel
theorem dX6_markOf_8 : decode cX6_markOf 8 = .ok (.istore_n 2, 1) := by decide +kernel
theorem dX6_markOf_9 : decode cX6_markOf 9 = .ok (.iload_n 2, 1) := by decide +kernel
theorem dX6_markOf_10 : decode cX6_markOf 10 = .ok (.iconst 2, 1) := by decide +kernel
theorem dX6_markOf_11 : decode cX6_markOf 11 = .ok (.if_icmp .ne 17, 3) := by decide +kernel
theorem dX6_markOf_14 : decode cX6_markOf 14 = .ok (.aload_n 0, 1) := by decide +kernel
theorem dX6_markOf_15 : decode cX6_markOf 15 = .ok (.bipush 24, 2) := by decide +kernel
theorem dX6_markOf_17 : decode cX6_markOf 17 = .ok (.invokevirtual 207, 3) := by decide +kernel
theorem dX6_markOf_20 : decode cX6_markOf 20 = .ok (.iconst 2, 1) := by decide +kernel
theorem dX6_markOf_21 : decode cX6_markOf 21 = .ok (.aload_n 0, 1) := by decide +kernel
theorem dX6_markOf_22 : decode cX6_markOf 22 = .ok (.iload_n 1, 1) := by decide +kernel
theorem dX6_markOf_23 : decode cX6_markOf 23 = .ok (.invokevirtual 217, 3) := by decide +kernel
theorem dX6_markOf_26 : decode cX6_markOf 26 = .ok (.imul, 1) := by decide +kernel
theorem dX6_markOf_27 : decode cX6_markOf 27 = .ok (.ireturn, 1) := by decide +kernel
theorem dX6_markOf_28 : decode cX6_markOf 28 = .ok (.iload_n 2, 1) := by decide +kernel
theorem dX6_markOf_29 : decode cX6_markOf 29 = .ok (.iconst 3, 1) := by decide +kernel
theorem dX6_markOf_30 : decode cX6_markOf 30 = .ok (.if_icmp .ne 19, 3) := by decide +kernel
theorem dX6_markOf_33 : decode cX6_markOf 33 = .ok (.aload_n 0, 1) := by decide +kernel
theorem dX6_markOf_34 : decode cX6_markOf 34 = .ok (.bipush 22, 2) := by decide +kernel
theorem dX6_markOf_36 : decode cX6_markOf 36 = .ok (.invokevirtual 207, 3) := by decide +kernel
theorem dX6_markOf_39 : decode cX6_markOf 39 = .ok (.aload_n 0, 1) := by decide +kernel
theorem dX6_markOf_40 : decode cX6_markOf 40 = .ok (.iload_n 1, 1) := by decide +kernel
theorem dX6_markOf_41 : decode cX6_markOf 41 = .ok (.invokevirtual 217, 3) := by decide +kernel
theorem dX6_markOf_44 : decode cX6_markOf 44 = .ok (.sipush 1000, 3) := by decide +kernel
theorem dX6_markOf_47 : decode cX6_markOf 47 = .ok (.isub, 1) := by decide +kernel
theorem dX6_markOf_48 : decode cX6_markOf 48 = .ok (.ireturn, 1) := by decide +kernel
theorem dX6_markOf_49 : decode cX6_markOf 49 = .ok (.iload_n 2, 1) := by decide +kernel
theorem dX6_markOf_50 : decode cX6_markOf 50 = .ok (.iconst 1, 1) := by decide +kernel
theorem dX6_markOf_51 : decode cX6_markOf 51 = .ok (.if_icmp .ne 9, 3) := by decide +kernel
theorem dX6_markOf_54 : decode cX6_markOf 54 = .ok (.aload_n 0, 1) := by decide +kernel
theorem dX6_markOf_55 : decode cX6_markOf 55 = .ok (.iload_n 1, 1) := by decide +kernel
theorem dX6_markOf_56 : decode cX6_markOf 56 = .ok (.invokevirtual 217, 3) := by decide +kernel
theorem dX6_markOf_59 : decode cX6_markOf 59 = .ok (.ireturn, 1) := by decide +kernel
theorem dX6_markOf_60 : decode cX6_markOf 60 = .ok (.aload_n 0, 1) := by decide +kernel
theorem dX6_markOf_61 : decode cX6_markOf 61 = .ok (.bipush 23, 2) := by decide +kernel
theorem dX6_markOf_63 : decode cX6_markOf 63 = .ok (.invokevirtual 207, 3) := by decide +kernel
theorem dX6_markOf_66 : decode cX6_markOf 66 = .ok (.aload_n 0, 1) := by decide +kernel
theorem dX6_markOf_67 : decode cX6_markOf 67 = .ok (.iload_n 1, 1) := by decide +kernel
theorem dX6_markOf_68 : decode cX6_markOf 68 = .ok (.bipush 20, 2) := by decide +kernel
theorem dX6_markOf_70 : decode cX6_markOf 70 = .ok (.invokevirtual 211, 3) := by decide +kernel
theorem dX6_markOf_73 : decode cX6_markOf 73 = .ok (.istore_n 3, 1) := by decide +kernel
theorem dX6_markOf_74 : decode cX6_markOf 74 = .ok (.iload_n 3, 1) := by decide +kernel
theorem dX6_markOf_75 : decode cX6_markOf 75 = .ok (.aload_n 0, 1) := by decide +kernel
theorem dX6_markOf_76 : decode cX6_markOf 76 = .ok (.iload_n 1, 1) := by decide +kernel
theorem dX6_markOf_77 : decode cX6_markOf 77 = .ok (.invokevirtual 220, 3) := by decide +kernel
theorem dX6_markOf_80 : decode cX6_markOf 80 = .ok (.isub, 1) := by decide +kernel
theorem dX6_markOf_81 : decode cX6_markOf 81 = .ok (.ireturn, 1) := by decide +kernel
set_option maxRecDepth 20000 in
theorem ggX6_allSize_X6_begin : GoodIn wsX6_allSize wsX6_begin := goodIn_r _ [5, 6, 7, 40, 41, 42, 43, 44, 45, 46, 47, 48, 49, 50, 51, 52, 53, 54, 55, 56, 57, 58, 59, 60, 61] (by decide +kernel) (by decide +kernel)
set_option maxRecDepth 20000 in
theorem gX6_allSize_X6_begin : GoodIn wsX6_allSize (wsV RX6 207 RX6 yX6_begin wsX6_begin) := goodIn_app (goodIn_of _ (by decide +kernel)) ggX6_allSize_X6_begin
set_option maxRecDepth 20000 in
theorem ggX6_allSize_X6_lent : GoodIn wsX6_allSize wsX6_lent := goodIn_r _ [11, 12, 1, 2, 3, 4, 5, 6, 7, 40, 41, 42, 43, 44, 45, 46, 47, 48, 49, 50, 51, 52, 53, 54, 55, 56, 57, 58, 59, 60, 61] (by decide +kernel) (by decide +kernel)
set_option maxRecDepth 20000 in
theorem gX6_allSize_X6_lent : GoodIn wsX6_allSize (wsV RX6 211 RX6 yX6_lent wsX6_lent) := goodIn_app (goodIn_of _ (by decide +kernel)) ggX6_allSize_X6_lent
set_option maxRecDepth 20000 in
theorem ggX6_allSize_X6_markOf : GoodIn wsX6_allSize wsX6_markOf := goodIn_r _ [16, 12, 1, 2, 3, 4, 5, 6, 7, 17, 18, 19, 20, 8, 9, 10, 11, 21, 22, 23, 24, 25, 26, 27, 28, 29, 30, 31, 32, 33, 34, 35, 36, 37, 38, 39, 40, 41, 42, 43, 44, 45, 46, 47, 48, 49, 50, 51, 52, 53, 54, 55, 56, 57, 58, 59, 60, 61] (by decide +kernel) (by decide +kernel)
set_option maxRecDepth 20000 in
theorem gX6_allSize_X6_markOf : GoodIn wsX6_allSize (wsV RX6 223 RX6 yX6_markOf wsX6_markOf) := goodIn_app (goodIn_of _ (by decide +kernel)) ggX6_allSize_X6_markOf
theorem dX6_allSize_0 : decode cX6_allSize 0 = .ok (.aload_n 0, 1) := by decide +kernel
theorem dX6_allSize_1 : decode cX6_allSize 1 = .ok (.bipush 11, 2) := by decide +kernel
theorem dX6_allSize_3 : decode cX6_allSize 3 = .ok (.invokevirtual 207, 3) := by decide +kernel
theorem dX6_allSize_6 : decode cX6_allSize 6 = .ok (.aload_n 0, 1) := by decide +kernel
theorem dX6_allSize_7 : decode cX6_allSize 7 = .ok (.iload_n 1, 1) := by decide +kernel
theorem dX6_allSize_8 : decode cX6_allSize 8 = .ok (.bipush 10, 2) := by decide +kernel
theorem dX6_allSize_10 : decode cX6_allSize 10 = .ok (.invokevirtual 211, 3) := by decide +kernel
theorem dX6_allSize_13 : decode cX6_allSize 13 = .ok (.istore_n 2, 1) := by decide +kernel
theorem dX6_allSize_14 : decode cX6_allSize 14 = .ok (.iload_n 2, 1) := by decide +kernel
theorem dX6_allSize_15 : decode cX6_allSize 15 = .ok (.aload_n 0, 1) := by decide +kernel
theorem dX6_allSize_16 : decode cX6_allSize 16 = .ok (.iload_n 1, 1) := by decide +kernel
theorem dX6_allSize_17 : decode cX6_allSize 17 = .ok (.invokevirtual 223, 3) := by decide +kernel
theorem dX6_allSize_20 : decode cX6_allSize 20 = .ok (.iadd, 1) := by decide +kernel
theorem dX6_allSize_21 : decode cX6_allSize 21 = .ok (.ireturn, 1) := by decide +kernel
set_option maxRecDepth 20000 in
theorem ggX6_sizeOf_X6_begin : GoodIn wsX6_sizeOf wsX6_begin := goodIn_r _ [6, 7, 8, 44, 45, 46, 47, 48, 49, 50, 51, 52, 53, 54, 55, 56, 57, 58, 59, 60, 61, 62, 63, 64, 65] (by decide +kernel) (by decide +kernel)
set_option maxRecDepth 20000 in
theorem gX6_sizeOf_X6_begin : GoodIn wsX6_sizeOf (wsV RX6 207 RX6 yX6_begin wsX6_begin) := goodIn_app (goodIn_of _ (by decide +kernel)) ggX6_sizeOf_X6_begin
set_option maxRecDepth 20000 in
theorem ggX6_sizeOf_X6_allSize : GoodIn wsX6_sizeOf wsX6_allSize := goodIn_r _ [12, 2, 3, 4, 5, 6, 7, 8, 13, 14, 15, 16, 1, 17, 18, 19, 20, 21, 22, 23, 24, 25, 26, 27, 28, 29, 30, 31, 32, 33, 34, 35, 36, 37, 38, 39, 40, 41, 42, 43, 44, 45, 46, 47, 48, 49, 50, 51, 52, 53, 54, 55, 56, 57, 58, 59, 60, 61, 62, 63, 64, 65] (by decide +kernel) (by decide +kernel)
set_option maxRecDepth 20000 in
theorem gX6_sizeOf_X6_allSize : GoodIn wsX6_sizeOf (wsV RX6 226 RX6 yX6_allSize wsX6_allSize) := goodIn_app (goodIn_of _ (by decide +kernel)) ggX6_sizeOf_X6_allSize
set_option maxRecDepth 20000 in
theorem ggX6_sizeOf_X6_sizeOfAny : GoodIn wsX6_sizeOf wsX6_sizeOfAny := goodIn_r _ [39, 1, 2, 3, 4, 5, 6, 7, 8, 40, 41, 42, 43, 13, 14, 15, 16, 44, 45, 46, 47, 48, 49, 50, 51, 52, 53, 54, 55, 56, 57, 58, 59, 60, 61, 62, 63, 64, 65] (by decide +kernel) (by decide +kernel)
set_option maxRecDepth 20000 in
theorem gX6_sizeOf_X6_sizeOfAny : GoodIn wsX6_sizeOf (wsV RX6 220 RX6 yX6_sizeOfAny wsX6_sizeOfAny) := goodIn_app (goodIn_of _ (by decide +kernel)) ggX6_sizeOf_X6_sizeOfAny
theorem dX6_sizeOf_0 : decode cX6_sizeOf 0 = .ok (.aload_n 0, 1) := by decide +kernel
theorem dX6_sizeOf_1 : decode cX6_sizeOf 1 = .ok (.getfield 19, 3) := by decide +kernel
theorem dX6_sizeOf_4 : decode cX6_sizeOf 4 = .ok (.iconst 5, 1) := by decide +kernel
theorem dX6_sizeOf_5 : decode cX6_sizeOf 5 = .ok (.iload_n 1, 1) := by decide +kernel
theorem dX6_sizeOf_6 : decode cX6_sizeOf 6 = .ok (.iadd, 1) := by decide +kernel
theorem dX6_sizeOf_7 : decode cX6_sizeOf 7 = .ok (.iaload, 1) := by decide +kernel
theorem dX6_sizeOf_8 : decode cX6_sizeOf 8 = .ok (.istore_n 2, 1) := by decide +kernel
theorem dX6_sizeOf_9 : decode cX6_sizeOf 9 = .ok (.iload_n 2, 1) := by decide +kernel
theorem dX6_sizeOf_10 : decode cX6_sizeOf 10 = .ok (.iconst 2, 1) := by decide +kernel
theorem dX6_sizeOf_11 : decode cX6_sizeOf 11 = .ok (.if_icmp .ne 16, 3) := by decide +kernel
theorem dX6_sizeOf_14 : decode cX6_sizeOf 14 = .ok (.aload_n 0, 1) := by decide +kernel
theorem dX6_sizeOf_15 : decode cX6_sizeOf 15 = .ok (.bipush 12, 2) := by decide +kernel
theorem dX6_sizeOf_17 : decode cX6_sizeOf 17 = .ok (.invokevirtual 207, 3) := by decide +kernel
theorem dX6_sizeOf_20 : decode cX6_sizeOf 20 = .ok (.aload_n 0, 1) := by decide +kernel
theorem dX6_sizeOf_21 : decode cX6_sizeOf 21 = .ok (.iload_n 1, 1) := by decide +kernel
theorem dX6_sizeOf_22 : decode cX6_sizeOf 22 = .ok (.invokevirtual 226, 3) := by decide +kernel
theorem dX6_sizeOf_25 : decode cX6_sizeOf 25 = .ok (.ineg, 1) := by decide +kernel
theorem dX6_sizeOf_26 : decode cX6_sizeOf 26 = .ok (.ireturn, 1) := by decide +kernel
theorem dX6_sizeOf_27 : decode cX6_sizeOf 27 = .ok (.iload_n 2, 1) := by decide +kernel
theorem dX6_sizeOf_28 : decode cX6_sizeOf 28 = .ok (.iconst 4, 1) := by decide +kernel
theorem dX6_sizeOf_29 : decode cX6_sizeOf 29 = .ok (.if_icmp .lt 11, 3) := by decide +kernel
theorem dX6_sizeOf_32 : decode cX6_sizeOf 32 = .ok (.aload_n 0, 1) := by decide +kernel
theorem dX6_sizeOf_33 : decode cX6_sizeOf 33 = .ok (.iload_n 1, 1) := by decide +kernel
theorem dX6_sizeOf_34 : decode cX6_sizeOf 34 = .ok (.invokevirtual 220, 3) := by decide +kernel
theorem dX6_sizeOf_37 : decode cX6_sizeOf 37 = .ok (.goto 8, 3) := by decide +kernel
theorem dX6_sizeOf_40 : decode cX6_sizeOf 40 = .ok (.aload_n 0, 1) := by decide +kernel
theorem dX6_sizeOf_41 : decode cX6_sizeOf 41 = .ok (.iload_n 1, 1) := by decide +kernel
theorem dX6_sizeOf_42 : decode cX6_sizeOf 42 = .ok (.invokevirtual 226, 3) := by decide +kernel
theorem dX6_sizeOf_45 : decode cX6_sizeOf 45 = .ok (.ireturn, 1) := by decide +kernel
set_option maxRecDepth 20000 in
theorem ggX6_ask_X6_isTie : GoodIn wsX6_ask wsX6_isTie := goodIn_r _ [7, 8, 9, 10, 6, 11, 56, 57, 58, 59, 60, 61, 62, 63, 64, 65, 66, 67, 68, 69, 70, 71, 72, 73, 74, 75, 76, 77] (by decide +kernel) (by decide +kernel)
set_option maxRecDepth 20000 in
theorem gX6_ask_X6_isTie : GoodIn wsX6_ask (wsV RX6 166 RX6 yX6_isTie wsX6_isTie) := goodIn_app (goodIn_of _ (by decide +kernel)) ggX6_ask_X6_isTie
set_option maxRecDepth 20000 in
theorem ggX6_ask_X6_in : GoodIn wsX6_ask wsX6_in := goodIn_r _ [11] (by decide +kernel) (by decide +kernel)
set_option maxRecDepth 20000 in
theorem gX6_ask_X6_in : GoodIn wsX6_ask (va_wsS RX6 51 yX6_in wsX6_in) := goodIn_app (goodIn_of _ (by decide +kernel)) ggX6_ask_X6_in
set_option maxRecDepth 20000 in
theorem ggX6_ask_X6_sizeOf : GoodIn wsX6_ask wsX6_sizeOf := goodIn_r _ [15, 8, 16, 17, 18, 6, 19, 2, 20, 21, 22, 23, 24, 25, 26, 27, 28, 29, 30, 31, 32, 33, 34, 35, 36, 37, 38, 39, 40, 41, 42, 43, 44, 45, 46, 47, 48, 49, 50, 51, 52, 53, 54, 55, 56, 57, 58, 59, 60, 61, 62, 63, 64, 65, 66, 67, 68, 69, 70, 71, 72, 73, 74, 75, 76, 77] (by decide +kernel) (by decide +kernel)
set_option maxRecDepth 20000 in
theorem gX6_ask_X6_sizeOf : GoodIn wsX6_ask (wsV RX6 229 RX6 yX6_sizeOf wsX6_sizeOf) := goodIn_app (goodIn_of _ (by decide +kernel)) ggX6_ask_X6_sizeOf
set_option maxRecDepth 20000 in
theorem ggX6_ask_X6_markOf : GoodIn wsX6_ask wsX6_markOf := goodIn_r _ [32, 8, 16, 17, 18, 6, 19, 2, 20, 33, 34, 35, 36, 25, 26, 27, 28, 37, 38, 39, 40, 41, 42, 43, 44, 45, 46, 47, 48, 49, 50, 51, 52, 53, 54, 55, 56, 57, 58, 59, 60, 61, 62, 63, 64, 65, 66, 67, 68, 69, 70, 71, 72, 73, 74, 75, 76, 77] (by decide +kernel) (by decide +kernel)
set_option maxRecDepth 20000 in
theorem gX6_ask_X6_markOf : GoodIn wsX6_ask (wsV RX6 223 RX6 yX6_markOf wsX6_markOf) := goodIn_app (goodIn_of _ (by decide +kernel)) ggX6_ask_X6_markOf
theorem dX6_ask_0 : decode cX6_ask 0 = .ok (.aload_n 0, 1) := by decide +kernel
theorem dX6_ask_1 : decode cX6_ask 1 = .ok (.iload_n 1, 1) := by decide +kernel
theorem dX6_ask_2 : decode cX6_ask 2 = .ok (.invokevirtual 166, 3) := by decide +kernel
theorem dX6_ask_5 : decode cX6_ask 5 = .ok (.ifCond .eq 13, 3) := by decide +kernel
theorem dX6_ask_8 : decode cX6_ask 8 = .ok (.iload_n 2, 1) := by decide +kernel
theorem dX6_ask_9 : decode cX6_ask 9 = .ok (.i2l, 1) := by decide +kernel
theorem dX6_ask_10 : decode cX6_ask 10 = .ok (.lconst 0, 1) := by decide +kernel
theorem dX6_ask_11 : decode cX6_ask 11 = .ok (.lconst 1, 1) := by decide +kernel
theorem dX6_ask_12 : decode cX6_ask 12 = .ok (.invokestatic 51, 3) := by decide +kernel
theorem dX6_ask_15 : decode cX6_ask 15 = .ok (.ifCond .ne 6, 3) := by decide +kernel
theorem dX6_ask_18 : decode cX6_ask 18 = .ok (.ldc 61, 2) := by decide +kernel
theorem dX6_ask_20 : decode cX6_ask 20 = .ok (.ireturn, 1) := by decide +kernel
theorem dX6_ask_21 : decode cX6_ask 21 = .ok (.aload_n 0, 1) := by decide +kernel
theorem dX6_ask_22 : decode cX6_ask 22 = .ok (.iconst 0, 1) := by decide +kernel
theorem dX6_ask_23 : decode cX6_ask 23 = .ok (.putfield 204, 3) := by decide +kernel
theorem dX6_ask_26 : decode cX6_ask 26 = .ok (.iload_n 2, 1) := by decide +kernel
theorem dX6_ask_27 : decode cX6_ask 27 = .ok (.ifCond .ne 11, 3) := by decide +kernel
theorem dX6_ask_30 : decode cX6_ask 30 = .ok (.aload_n 0, 1) := by decide +kernel
theorem dX6_ask_31 : decode cX6_ask 31 = .ok (.iload_n 1, 1) := by decide +kernel
theorem dX6_ask_32 : decode cX6_ask 32 = .ok (.invokevirtual 229, 3) := by decide +kernel
theorem dX6_ask_35 : decode cX6_ask 35 = .ok (.goto 8, 3) := by decide +kernel
theorem dX6_ask_38 : decode cX6_ask 38 = .ok (.aload_n 0, 1) := by decide +kernel
theorem dX6_ask_39 : decode cX6_ask 39 = .ok (.iload_n 1, 1) := by decide +kernel
theorem dX6_ask_40 : decode cX6_ask 40 = .ok (.invokevirtual 223, 3) := by decide +kernel
theorem dX6_ask_43 : decode cX6_ask 43 = .ok (.ireturn, 1) := by decide +kernel
set_option maxRecDepth 20000 in
theorem ggX6_trace_X6_in : GoodIn wsX6_trace wsX6_in := goodIn_r _ [7] (by decide +kernel) (by decide +kernel)
set_option maxRecDepth 20000 in
theorem gX6_trace_X6_in : GoodIn wsX6_trace (va_wsS RX6 51 yX6_in wsX6_in) := goodIn_app (goodIn_of _ (by decide +kernel)) ggX6_trace_X6_in
theorem dX6_trace_0 : decode cX6_trace 0 = .ok (.iload_n 1, 1) := by decide +kernel
theorem dX6_trace_1 : decode cX6_trace 1 = .ok (.i2l, 1) := by decide +kernel
theorem dX6_trace_2 : decode cX6_trace 2 = .ok (.lconst 0, 1) := by decide +kernel
theorem dX6_trace_3 : decode cX6_trace 3 = .ok (.aload_n 0, 1) := by decide +kernel
theorem dX6_trace_4 : decode cX6_trace 4 = .ok (.getfield 204, 3) := by decide +kernel
theorem dX6_trace_7 : decode cX6_trace 7 = .ok (.iconst 1, 1) := by decide +kernel
theorem dX6_trace_8 : decode cX6_trace 8 = .ok (.isub, 1) := by decide +kernel
theorem dX6_trace_9 : decode cX6_trace 9 = .ok (.i2l, 1) := by decide +kernel
theorem dX6_trace_10 : decode cX6_trace 10 = .ok (.invokestatic 51, 3) := by decide +kernel
theorem dX6_trace_13 : decode cX6_trace 13 = .ok (.ifCond .eq 12, 3) := by decide +kernel
theorem dX6_trace_16 : decode cX6_trace 16 = .ok (.aload_n 0, 1) := by decide +kernel
theorem dX6_trace_17 : decode cX6_trace 17 = .ok (.getfield 41, 3) := by decide +kernel
theorem dX6_trace_20 : decode cX6_trace 20 = .ok (.iload_n 1, 1) := by decide +kernel
theorem dX6_trace_21 : decode cX6_trace 21 = .ok (.iaload, 1) := by decide +kernel
theorem dX6_trace_22 : decode cX6_trace 22 = .ok (.goto 5, 3) := by decide +kernel
theorem dX6_trace_25 : decode cX6_trace 25 = .ok (.ldc 191, 2) := by decide +kernel
theorem dX6_trace_27 : decode cX6_trace 27 = .ok (.ireturn, 1) := by decide +kernel
set_option maxRecDepth 20000 in
theorem ggX6_count_X6_ones : GoodIn wsX6_count wsX6_ones := goodIn_r _ [9] (by decide +kernel) (by decide +kernel)
set_option maxRecDepth 20000 in
theorem gX6_count_X6_ones : GoodIn wsX6_count (va_wsS RX6 140 yX6_ones wsX6_ones) := goodIn_app (goodIn_of _ (by decide +kernel)) ggX6_count_X6_ones
theorem dX6_count_0 : decode cX6_count 0 = .ok (.iconst 0, 1) := by decide +kernel
theorem dX6_count_1 : decode cX6_count 1 = .ok (.istore_n 2, 1) := by decide +kernel
theorem dX6_count_2 : decode cX6_count 2 = .ok (.iconst 0, 1) := by decide +kernel
theorem dX6_count_3 : decode cX6_count 3 = .ok (.istore_n 3, 1) := by decide +kernel
theorem dX6_count_4 : decode cX6_count 4 = .ok (.iload_n 3, 1) := by decide +kernel
theorem dX6_count_5 : decode cX6_count 5 = .ok (.bipush 8, 2) := by decide +kernel
theorem dX6_count_7 : decode cX6_count 7 = .ok (.if_icmp .ge 26, 3) := by decide +kernel
theorem dX6_count_10 : decode cX6_count 10 = .ok (.iload_n 2, 1) := by decide +kernel
theorem dX6_count_11 : decode cX6_count 11 = .ok (.aload_n 0, 1) := by decide +kernel
theorem dX6_count_12 : decode cX6_count 12 = .ok (.getfield 13, 3) := by decide +kernel
theorem dX6_count_15 : decode cX6_count 15 = .ok (.iload_n 3, 1) := by decide +kernel
theorem dX6_count_16 : decode cX6_count 16 = .ok (.iaload, 1) := by decide +kernel
theorem dX6_count_17 : decode cX6_count 17 = .ok (.ifCond .lt 7, 3) := by decide +kernel
theorem dX6_count_20 : decode cX6_count 20 = .ok (.iconst 1, 1) := by decide +kernel
theorem dX6_count_21 : decode cX6_count 21 = .ok (.goto 4, 3) := by decide +kernel
theorem dX6_count_24 : decode cX6_count 24 = .ok (.iconst 0, 1) := by decide +kernel
theorem dX6_count_25 : decode cX6_count 25 = .ok (.iadd, 1) := by decide +kernel
theorem dX6_count_26 : decode cX6_count 26 = .ok (.istore_n 2, 1) := by decide +kernel
theorem dX6_count_27 : decode cX6_count 27 = .ok (.iinc 3 1, 3) := by decide +kernel
theorem dX6_count_30 : decode cX6_count 30 = .ok (.goto (-26), 3) := by decide +kernel
theorem dX6_count_33 : decode cX6_count 33 = .ok (.iload_n 1, 1) := by decide +kernel
theorem dX6_count_34 : decode cX6_count 34 = .ok (.tableswitch 85 0 6 #[42, 44, 51, 58, 65, 75, 80], 42) := by decide +kernel
theorem dX6_count_76 : decode cX6_count 76 = .ok (.iload_n 2, 1) := by decide +kernel
theorem dX6_count_77 : decode cX6_count 77 = .ok (.ireturn, 1) := by decide +kernel
theorem dX6_count_78 : decode cX6_count 78 = .ok (.aload_n 0, 1) := by decide +kernel
theorem dX6_count_79 : decode cX6_count 79 = .ok (.getfield 19, 3) := by decide +kernel
theorem dX6_count_82 : decode cX6_count 82 = .ok (.iconst 0, 1) := by decide +kernel
theorem dX6_count_83 : decode cX6_count 83 = .ok (.iaload, 1) := by decide +kernel
theorem dX6_count_84 : decode cX6_count 84 = .ok (.ireturn, 1) := by decide +kernel
theorem dX6_count_85 : decode cX6_count 85 = .ok (.aload_n 0, 1) := by decide +kernel
theorem dX6_count_86 : decode cX6_count 86 = .ok (.getfield 19, 3) := by decide +kernel
theorem dX6_count_89 : decode cX6_count 89 = .ok (.iconst 1, 1) := by decide +kernel
theorem dX6_count_90 : decode cX6_count 90 = .ok (.iaload, 1) := by decide +kernel
theorem dX6_count_91 : decode cX6_count 91 = .ok (.ireturn, 1) := by decide +kernel
theorem dX6_count_92 : decode cX6_count 92 = .ok (.aload_n 0, 1) := by decide +kernel
theorem dX6_count_93 : decode cX6_count 93 = .ok (.getfield 19, 3) := by decide +kernel
theorem dX6_count_96 : decode cX6_count 96 = .ok (.iconst 2, 1) := by decide +kernel
theorem dX6_count_97 : decode cX6_count 97 = .ok (.iaload, 1) := by decide +kernel
theorem dX6_count_98 : decode cX6_count 98 = .ok (.ireturn, 1) := by decide +kernel
theorem dX6_count_99 : decode cX6_count 99 = .ok (.aload_n 0, 1) := by decide +kernel
theorem dX6_count_100 : decode cX6_count 100 = .ok (.getfield 19, 3) := by decide +kernel
theorem dX6_count_103 : decode cX6_count 103 = .ok (.iconst 4, 1) := by decide +kernel
theorem dX6_count_104 : decode cX6_count 104 = .ok (.iaload, 1) := by decide +kernel
theorem dX6_count_105 : decode cX6_count 105 = .ok (.invokestatic 140, 3) := by decide +kernel
theorem dX6_count_108 : decode cX6_count 108 = .ok (.ireturn, 1) := by decide +kernel
theorem dX6_count_109 : decode cX6_count 109 = .ok (.aload_n 0, 1) := by decide +kernel
theorem dX6_count_110 : decode cX6_count 110 = .ok (.getfield 133, 3) := by decide +kernel
theorem dX6_count_113 : decode cX6_count 113 = .ok (.ireturn, 1) := by decide +kernel
theorem dX6_count_114 : decode cX6_count 114 = .ok (.aload_n 0, 1) := by decide +kernel
theorem dX6_count_115 : decode cX6_count 115 = .ok (.getfield 75, 3) := by decide +kernel
theorem dX6_count_118 : decode cX6_count 118 = .ok (.ireturn, 1) := by decide +kernel
theorem dX6_count_119 : decode cX6_count 119 = .ok (.ldc 61, 2) := by decide +kernel
theorem dX6_count_121 : decode cX6_count 121 = .ok (.ireturn, 1) := by decide +kernel
theorem dX6_status_0 : decode cX6_status 0 = .ok (.aload_n 0, 1) := by decide +kernel
theorem dX6_status_1 : decode cX6_status 1 = .ok (.getfield 44, 3) := by decide +kernel
theorem dX6_status_4 : decode cX6_status 4 = .ok (.ireturn, 1) := by decide +kernel
theorem dJ6_bitCount_0f7a4_0 : decode cJ6_bitCount_0f7a4 0 = .ok (.iload_n 0, 1) := by decide +kernel
theorem dJ6_bitCount_0f7a4_1 : decode cJ6_bitCount_0f7a4 1 = .ok (.iload_n 0, 1) := by decide +kernel
theorem dJ6_bitCount_0f7a4_2 : decode cJ6_bitCount_0f7a4 2 = .ok (.iconst 1, 1) := by decide +kernel
theorem dJ6_bitCount_0f7a4_3 : decode cJ6_bitCount_0f7a4 3 = .ok (.iushr, 1) := by decide +kernel
theorem dJ6_bitCount_0f7a4_4 : decode cJ6_bitCount_0f7a4 4 = .ok (.ldc_w 265, 3) := by decide +kernel
theorem dJ6_bitCount_0f7a4_7 : decode cJ6_bitCount_0f7a4 7 = .ok (.iand, 1) := by decide +kernel
theorem dJ6_bitCount_0f7a4_8 : decode cJ6_bitCount_0f7a4 8 = .ok (.isub, 1) := by decide +kernel
theorem dJ6_bitCount_0f7a4_9 : decode cJ6_bitCount_0f7a4 9 = .ok (.istore_n 0, 1) := by decide +kernel
theorem dJ6_bitCount_0f7a4_10 : decode cJ6_bitCount_0f7a4 10 = .ok (.iload_n 0, 1) := by decide +kernel
theorem dJ6_bitCount_0f7a4_11 : decode cJ6_bitCount_0f7a4 11 = .ok (.ldc_w 266, 3) := by decide +kernel
theorem dJ6_bitCount_0f7a4_14 : decode cJ6_bitCount_0f7a4 14 = .ok (.iand, 1) := by decide +kernel
theorem dJ6_bitCount_0f7a4_15 : decode cJ6_bitCount_0f7a4 15 = .ok (.iload_n 0, 1) := by decide +kernel
theorem dJ6_bitCount_0f7a4_16 : decode cJ6_bitCount_0f7a4 16 = .ok (.iconst 2, 1) := by decide +kernel
theorem dJ6_bitCount_0f7a4_17 : decode cJ6_bitCount_0f7a4 17 = .ok (.iushr, 1) := by decide +kernel
theorem dJ6_bitCount_0f7a4_18 : decode cJ6_bitCount_0f7a4 18 = .ok (.ldc_w 266, 3) := by decide +kernel
theorem dJ6_bitCount_0f7a4_21 : decode cJ6_bitCount_0f7a4 21 = .ok (.iand, 1) := by decide +kernel
theorem dJ6_bitCount_0f7a4_22 : decode cJ6_bitCount_0f7a4 22 = .ok (.iadd, 1) := by decide +kernel
theorem dJ6_bitCount_0f7a4_23 : decode cJ6_bitCount_0f7a4 23 = .ok (.istore_n 0, 1) := by decide +kernel
theorem dJ6_bitCount_0f7a4_24 : decode cJ6_bitCount_0f7a4 24 = .ok (.iload_n 0, 1) := by decide +kernel
theorem dJ6_bitCount_0f7a4_25 : decode cJ6_bitCount_0f7a4 25 = .ok (.iload_n 0, 1) := by decide +kernel
theorem dJ6_bitCount_0f7a4_26 : decode cJ6_bitCount_0f7a4 26 = .ok (.iconst 4, 1) := by decide +kernel
theorem dJ6_bitCount_0f7a4_27 : decode cJ6_bitCount_0f7a4 27 = .ok (.iushr, 1) := by decide +kernel
theorem dJ6_bitCount_0f7a4_28 : decode cJ6_bitCount_0f7a4 28 = .ok (.iadd, 1) := by decide +kernel
theorem dJ6_bitCount_0f7a4_29 : decode cJ6_bitCount_0f7a4 29 = .ok (.ldc_w 267, 3) := by decide +kernel
theorem dJ6_bitCount_0f7a4_32 : decode cJ6_bitCount_0f7a4 32 = .ok (.iand, 1) := by decide +kernel
theorem dJ6_bitCount_0f7a4_33 : decode cJ6_bitCount_0f7a4 33 = .ok (.istore_n 0, 1) := by decide +kernel
theorem dJ6_bitCount_0f7a4_34 : decode cJ6_bitCount_0f7a4 34 = .ok (.iload_n 0, 1) := by decide +kernel
theorem dJ6_bitCount_0f7a4_35 : decode cJ6_bitCount_0f7a4 35 = .ok (.iload_n 0, 1) := by decide +kernel
theorem dJ6_bitCount_0f7a4_36 : decode cJ6_bitCount_0f7a4 36 = .ok (.bipush 8, 2) := by decide +kernel
theorem dJ6_bitCount_0f7a4_38 : decode cJ6_bitCount_0f7a4 38 = .ok (.iushr, 1) := by decide +kernel
theorem dJ6_bitCount_0f7a4_39 : decode cJ6_bitCount_0f7a4 39 = .ok (.iadd, 1) := by decide +kernel
theorem dJ6_bitCount_0f7a4_40 : decode cJ6_bitCount_0f7a4 40 = .ok (.istore_n 0, 1) := by decide +kernel
theorem dJ6_bitCount_0f7a4_41 : decode cJ6_bitCount_0f7a4 41 = .ok (.iload_n 0, 1) := by decide +kernel
theorem dJ6_bitCount_0f7a4_42 : decode cJ6_bitCount_0f7a4 42 = .ok (.iload_n 0, 1) := by decide +kernel
theorem dJ6_bitCount_0f7a4_43 : decode cJ6_bitCount_0f7a4 43 = .ok (.bipush 16, 2) := by decide +kernel
theorem dJ6_bitCount_0f7a4_45 : decode cJ6_bitCount_0f7a4 45 = .ok (.iushr, 1) := by decide +kernel
theorem dJ6_bitCount_0f7a4_46 : decode cJ6_bitCount_0f7a4 46 = .ok (.iadd, 1) := by decide +kernel
theorem dJ6_bitCount_0f7a4_47 : decode cJ6_bitCount_0f7a4 47 = .ok (.istore_n 0, 1) := by decide +kernel
theorem dJ6_bitCount_0f7a4_48 : decode cJ6_bitCount_0f7a4 48 = .ok (.iload_n 0, 1) := by decide +kernel
theorem dJ6_bitCount_0f7a4_49 : decode cJ6_bitCount_0f7a4 49 = .ok (.bipush 63, 2) := by decide +kernel
theorem dJ6_bitCount_0f7a4_51 : decode cJ6_bitCount_0f7a4 51 = .ok (.iand, 1) := by decide +kernel
theorem dJ6_bitCount_0f7a4_52 : decode cJ6_bitCount_0f7a4 52 = .ok (.ireturn, 1) := by decide +kernel
theorem dJ9_abs_0f7a4_0 : decode cJ9_abs_0f7a4 0 = .ok (.iload_n 0, 1) := by decide +kernel
theorem dJ9_abs_0f7a4_1 : decode cJ9_abs_0f7a4 1 = .ok (.ifCond .ge 8, 3) := by decide +kernel
theorem dJ9_abs_0f7a4_4 : decode cJ9_abs_0f7a4 4 = .ok (.iload_n 0, 1) := by decide +kernel
theorem dJ9_abs_0f7a4_5 : decode cJ9_abs_0f7a4 5 = .ok (.ineg, 1) := by decide +kernel
theorem dJ9_abs_0f7a4_6 : decode cJ9_abs_0f7a4 6 = .ok (.goto 4, 3) := by decide +kernel
theorem dJ9_abs_0f7a4_9 : decode cJ9_abs_0f7a4 9 = .ok (.iload_n 0, 1) := by decide +kernel
theorem dJ9_abs_0f7a4_10 : decode cJ9_abs_0f7a4 10 = .ok (.ireturn, 1) := by decide +kernel
theorem dJ9_max_7cf53_0 : decode cJ9_max_7cf53 0 = .ok (.iload_n 0, 1) := by decide +kernel
theorem dJ9_max_7cf53_1 : decode cJ9_max_7cf53 1 = .ok (.iload_n 1, 1) := by decide +kernel
theorem dJ9_max_7cf53_2 : decode cJ9_max_7cf53 2 = .ok (.if_icmp .lt 7, 3) := by decide +kernel
theorem dJ9_max_7cf53_5 : decode cJ9_max_7cf53 5 = .ok (.iload_n 0, 1) := by decide +kernel
theorem dJ9_max_7cf53_6 : decode cJ9_max_7cf53 6 = .ok (.goto 4, 3) := by decide +kernel
theorem dJ9_max_7cf53_9 : decode cJ9_max_7cf53 9 = .ok (.iload_n 1, 1) := by decide +kernel
theorem dJ9_max_7cf53_10 : decode cJ9_max_7cf53 10 = .ok (.ireturn, 1) := by decide +kernel
