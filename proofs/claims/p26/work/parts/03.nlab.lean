theorem dX0_init_0 : decode cX0_init 0 = .ok (.aload_n 0, 1) := by decide +kernel
theorem dX0_init_1 : decode cX0_init 1 = .ok (.invokespecial 3, 3) := by decide +kernel
theorem dX0_init_4 : decode cX0_init 4 = .ok (.aload_n 0, 1) := by decide +kernel
theorem dX0_init_5 : decode cX0_init 5 = .ok (.bipush 48, 2) := by decide +kernel
theorem dX0_init_7 : decode cX0_init 7 = .ok (.newarray .long, 2) := by decide +kernel
theorem dX0_init_9 : decode cX0_init 9 = .ok (.putfield 9, 3) := by decide +kernel
theorem dX0_init_12 : decode cX0_init 12 = .ok (.aload_n 0, 1) := by decide +kernel
theorem dX0_init_13 : decode cX0_init 13 = .ok (.iconst 0, 1) := by decide +kernel
theorem dX0_init_14 : decode cX0_init 14 = .ok (.putfield 15, 3) := by decide +kernel
theorem dX0_init_17 : decode cX0_init 17 = .ok (.aload_n 0, 1) := by decide +kernel
theorem dX0_init_18 : decode cX0_init 18 = .ok (.iconst 0, 1) := by decide +kernel
theorem dX0_init_19 : decode cX0_init 19 = .ok (.putfield 19, 3) := by decide +kernel
theorem dX0_init_22 : decode cX0_init 22 = .ok (.return_, 1) := by decide +kernel
theorem dX0_size_0 : decode cX0_size 0 = .ok (.aload_n 0, 1) := by decide +kernel
theorem dX0_size_1 : decode cX0_size 1 = .ok (.getfield 15, 3) := by decide +kernel
theorem dX0_size_4 : decode cX0_size 4 = .ok (.ireturn, 1) := by decide +kernel
theorem dX0_countOfEdges_0 : decode cX0_countOfEdges 0 = .ok (.aload_n 0, 1) := by decide +kernel
theorem dX0_countOfEdges_1 : decode cX0_countOfEdges 1 = .ok (.getfield 19, 3) := by decide +kernel
theorem dX0_countOfEdges_4 : decode cX0_countOfEdges 4 = .ok (.ireturn, 1) := by decide +kernel
theorem dX0_has_0 : decode cX0_has 0 = .ok (.iload_n 1, 1) := by decide +kernel
theorem dX0_has_1 : decode cX0_has 1 = .ok (.ifCond .lt 15, 3) := by decide +kernel
theorem dX0_has_4 : decode cX0_has 4 = .ok (.iload_n 1, 1) := by decide +kernel
theorem dX0_has_5 : decode cX0_has 5 = .ok (.aload_n 0, 1) := by decide +kernel
theorem dX0_has_6 : decode cX0_has 6 = .ok (.getfield 15, 3) := by decide +kernel
theorem dX0_has_9 : decode cX0_has 9 = .ok (.if_icmp .ge 7, 3) := by decide +kernel
theorem dX0_has_12 : decode cX0_has 12 = .ok (.iconst 1, 1) := by decide +kernel
theorem dX0_has_13 : decode cX0_has 13 = .ok (.goto 4, 3) := by decide +kernel
theorem dX0_has_16 : decode cX0_has 16 = .ok (.iconst 0, 1) := by decide +kernel
theorem dX0_has_17 : decode cX0_has 17 = .ok (.ireturn, 1) := by decide +kernel
set_option maxRecDepth 20000 in
theorem ggX0_adjacent_X3_isRow : GoodIn wsX0_adjacent wsX3_isRow := goodIn_r _ [4] (by decide +kernel) (by decide +kernel)
set_option maxRecDepth 20000 in
theorem gX0_adjacent_X3_isRow_n22 : GoodIn wsX0_adjacent (wsX3_isRow) := ggX0_adjacent_X3_isRow
theorem dX0_adjacent_0 : decode cX0_adjacent 0 = .ok (.iload_n 1, 1) := by decide +kernel
theorem dX0_adjacent_1 : decode cX0_adjacent 1 = .ok (.invokestatic 22, 3) := by decide +kernel
theorem dX0_adjacent_4 : decode cX0_adjacent 4 = .ok (.ifCond .eq 12, 3) := by decide +kernel
theorem dX0_adjacent_7 : decode cX0_adjacent 7 = .ok (.aload_n 0, 1) := by decide +kernel
theorem dX0_adjacent_8 : decode cX0_adjacent 8 = .ok (.getfield 9, 3) := by decide +kernel
theorem dX0_adjacent_11 : decode cX0_adjacent 11 = .ok (.iload_n 1, 1) := by decide +kernel
theorem dX0_adjacent_12 : decode cX0_adjacent 12 = .ok (.laload, 1) := by decide +kernel
theorem dX0_adjacent_13 : decode cX0_adjacent 13 = .ok (.goto 4, 3) := by decide +kernel
theorem dX0_adjacent_16 : decode cX0_adjacent 16 = .ok (.lconst 0, 1) := by decide +kernel
theorem dX0_adjacent_17 : decode cX0_adjacent 17 = .ok (.lreturn, 1) := by decide +kernel
set_option maxRecDepth 20000 in
theorem ggX0_joins_X3_isRow : GoodIn wsX0_joins wsX3_isRow := goodIn_r _ [3] (by decide +kernel) (by decide +kernel)
set_option maxRecDepth 20000 in
theorem gX0_joins_X3_isRow_n22 : GoodIn wsX0_joins (wsX3_isRow) := ggX0_joins_X3_isRow
set_option maxRecDepth 20000 in
theorem ggX0_joins_X0_adjacent : GoodIn wsX0_joins wsX0_adjacent := goodIn_r _ [8, 9, 1, 2, 3, 12, 13, 14] (by decide +kernel) (by decide +kernel)
set_option maxRecDepth 20000 in
theorem gX0_joins_X0_adjacent : GoodIn wsX0_joins (wsV RX0 26 RX0 yX0_adjacent wsX0_adjacent) := goodIn_app (goodIn_of _ (by decide +kernel)) ggX0_joins_X0_adjacent
set_option maxRecDepth 20000 in
theorem ggX0_joins_X3_hasBit : GoodIn wsX0_joins wsX3_hasBit := goodIn_r _ [11] (by decide +kernel) (by decide +kernel)
set_option maxRecDepth 20000 in
theorem gX0_joins_X3_hasBit_n30 : GoodIn wsX0_joins (wsX3_hasBit) := ggX0_joins_X3_hasBit
theorem dX0_joins_0 : decode cX0_joins 0 = .ok (.iload_n 2, 1) := by decide +kernel
theorem dX0_joins_1 : decode cX0_joins 1 = .ok (.invokestatic 22, 3) := by decide +kernel
theorem dX0_joins_4 : decode cX0_joins 4 = .ok (.ifCond .eq 19, 3) := by decide +kernel
theorem dX0_joins_7 : decode cX0_joins 7 = .ok (.aload_n 0, 1) := by decide +kernel
theorem dX0_joins_8 : decode cX0_joins 8 = .ok (.iload_n 1, 1) := by decide +kernel
theorem dX0_joins_9 : decode cX0_joins 9 = .ok (.invokevirtual 26, 3) := by decide +kernel
theorem dX0_joins_12 : decode cX0_joins 12 = .ok (.iload_n 2, 1) := by decide +kernel
theorem dX0_joins_13 : decode cX0_joins 13 = .ok (.invokestatic 30, 3) := by decide +kernel
theorem dX0_joins_16 : decode cX0_joins 16 = .ok (.ifCond .eq 7, 3) := by decide +kernel
theorem dX0_joins_19 : decode cX0_joins 19 = .ok (.iconst 1, 1) := by decide +kernel
theorem dX0_joins_20 : decode cX0_joins 20 = .ok (.goto 4, 3) := by decide +kernel
theorem dX0_joins_23 : decode cX0_joins 23 = .ok (.iconst 0, 1) := by decide +kernel
theorem dX0_joins_24 : decode cX0_joins 24 = .ok (.ireturn, 1) := by decide +kernel
set_option maxRecDepth 20000 in
theorem ggX0_degree_X0_adjacent : GoodIn wsX0_degree wsX0_adjacent := goodIn_r _ [5, 6, 7, 8, 9, 17, 18, 19] (by decide +kernel) (by decide +kernel)
set_option maxRecDepth 20000 in
theorem gX0_degree_X0_adjacent : GoodIn wsX0_degree (wsV RX0 26 RX0 yX0_adjacent wsX0_adjacent) := goodIn_app (goodIn_of _ (by decide +kernel)) ggX0_degree_X0_adjacent
set_option maxRecDepth 20000 in
theorem ggX0_degree_J13_bitCount_95d88 : GoodIn wsX0_degree wsJ13_bitCount_95d88 := goodIn_r _ [13, 14, 15, 16] (by decide +kernel) (by decide +kernel)
set_option maxRecDepth 20000 in
theorem gX0_degree_J13_bitCount_95d88 : GoodIn wsX0_degree (va_wsS RX0 34 yJ13_bitCount_95d88 wsJ13_bitCount_95d88) := goodIn_app (goodIn_of _ (by decide +kernel)) ggX0_degree_J13_bitCount_95d88
theorem dX0_degree_0 : decode cX0_degree 0 = .ok (.aload_n 0, 1) := by decide +kernel
theorem dX0_degree_1 : decode cX0_degree 1 = .ok (.iload_n 1, 1) := by decide +kernel
theorem dX0_degree_2 : decode cX0_degree 2 = .ok (.invokevirtual 26, 3) := by decide +kernel
theorem dX0_degree_5 : decode cX0_degree 5 = .ok (.invokestatic 34, 3) := by decide +kernel
theorem dX0_degree_8 : decode cX0_degree 8 = .ok (.ireturn, 1) := by decide +kernel
theorem dX0_grow_0 : decode cX0_grow 0 = .ok (.aload_n 0, 1) := by decide +kernel
theorem dX0_grow_1 : decode cX0_grow 1 = .ok (.getfield 15, 3) := by decide +kernel
theorem dX0_grow_4 : decode cX0_grow 4 = .ok (.bipush 48, 2) := by decide +kernel
theorem dX0_grow_6 : decode cX0_grow 6 = .ok (.if_icmp .lt 5, 3) := by decide +kernel
theorem dX0_grow_9 : decode cX0_grow 9 = .ok (.iconst (-1), 1) := by decide +kernel
theorem dX0_grow_10 : decode cX0_grow 10 = .ok (.ireturn, 1) := by decide +kernel
theorem dX0_grow_11 : decode cX0_grow 11 = .ok (.aload_n 0, 1) := by decide +kernel
theorem dX0_grow_12 : decode cX0_grow 12 = .ok (.getfield 15, 3) := by decide +kernel
theorem dX0_grow_15 : decode cX0_grow 15 = .ok (.istore_n 1, 1) := by decide +kernel
theorem dX0_grow_16 : decode cX0_grow 16 = .ok (.aload_n 0, 1) := by decide +kernel
theorem dX0_grow_17 : decode cX0_grow 17 = .ok (.dup, 1) := by decide +kernel
theorem dX0_grow_18 : decode cX0_grow 18 = .ok (.getfield 15, 3) := by decide +kernel
theorem dX0_grow_21 : decode cX0_grow 21 = .ok (.iconst 1, 1) := by decide +kernel
theorem dX0_grow_22 : decode cX0_grow 22 = .ok (.iadd, 1) := by decide +kernel
theorem dX0_grow_23 : decode cX0_grow 23 = .ok (.putfield 15, 3) := by decide +kernel
theorem dX0_grow_26 : decode cX0_grow 26 = .ok (.iload_n 1, 1) := by decide +kernel
theorem dX0_grow_27 : decode cX0_grow 27 = .ok (.ireturn, 1) := by decide +kernel
set_option maxRecDepth 20000 in
theorem ggX0_join_X3_isRow : GoodIn wsX0_join wsX3_isRow := goodIn_r _ [5] (by decide +kernel) (by decide +kernel)
set_option maxRecDepth 20000 in
theorem gX0_join_X3_isRow_n22 : GoodIn wsX0_join (wsX3_isRow) := ggX0_join_X3_isRow
theorem dX0_join_0 : decode cX0_join 0 = .ok (.iload_n 1, 1) := by decide +kernel
theorem dX0_join_1 : decode cX0_join 1 = .ok (.invokestatic 22, 3) := by decide +kernel
theorem dX0_join_4 : decode cX0_join 4 = .ok (.ifCond .eq 44, 3) := by decide +kernel
theorem dX0_join_7 : decode cX0_join 7 = .ok (.iload_n 2, 1) := by decide +kernel
theorem dX0_join_8 : decode cX0_join 8 = .ok (.invokestatic 22, 3) := by decide +kernel
theorem dX0_join_11 : decode cX0_join 11 = .ok (.ifCond .eq 37, 3) := by decide +kernel
theorem dX0_join_14 : decode cX0_join 14 = .ok (.aload_n 0, 1) := by decide +kernel
theorem dX0_join_15 : decode cX0_join 15 = .ok (.getfield 9, 3) := by decide +kernel
theorem dX0_join_18 : decode cX0_join 18 = .ok (.iload_n 1, 1) := by decide +kernel
theorem dX0_join_19 : decode cX0_join 19 = .ok (.dup2, 1) := by decide +kernel
theorem dX0_join_20 : decode cX0_join 20 = .ok (.laload, 1) := by decide +kernel
theorem dX0_join_21 : decode cX0_join 21 = .ok (.lconst 1, 1) := by decide +kernel
theorem dX0_join_22 : decode cX0_join 22 = .ok (.iload_n 2, 1) := by decide +kernel
theorem dX0_join_23 : decode cX0_join 23 = .ok (.lshl, 1) := by decide +kernel
theorem dX0_join_24 : decode cX0_join 24 = .ok (.lor, 1) := by decide +kernel
theorem dX0_join_25 : decode cX0_join 25 = .ok (.lastore, 1) := by decide +kernel
theorem dX0_join_26 : decode cX0_join 26 = .ok (.aload_n 0, 1) := by decide +kernel
theorem dX0_join_27 : decode cX0_join 27 = .ok (.getfield 9, 3) := by decide +kernel
theorem dX0_join_30 : decode cX0_join 30 = .ok (.iload_n 2, 1) := by decide +kernel
theorem dX0_join_31 : decode cX0_join 31 = .ok (.dup2, 1) := by decide +kernel
theorem dX0_join_32 : decode cX0_join 32 = .ok (.laload, 1) := by decide +kernel
theorem dX0_join_33 : decode cX0_join 33 = .ok (.lconst 1, 1) := by decide +kernel
theorem dX0_join_34 : decode cX0_join 34 = .ok (.iload_n 1, 1) := by decide +kernel
theorem dX0_join_35 : decode cX0_join 35 = .ok (.lshl, 1) := by decide +kernel
theorem dX0_join_36 : decode cX0_join 36 = .ok (.lor, 1) := by decide +kernel
theorem dX0_join_37 : decode cX0_join 37 = .ok (.lastore, 1) := by decide +kernel
theorem dX0_join_38 : decode cX0_join 38 = .ok (.aload_n 0, 1) := by decide +kernel
theorem dX0_join_39 : decode cX0_join 39 = .ok (.dup, 1) := by decide +kernel
theorem dX0_join_40 : decode cX0_join 40 = .ok (.getfield 19, 3) := by decide +kernel
theorem dX0_join_43 : decode cX0_join 43 = .ok (.iconst 1, 1) := by decide +kernel
theorem dX0_join_44 : decode cX0_join 44 = .ok (.iadd, 1) := by decide +kernel
theorem dX0_join_45 : decode cX0_join 45 = .ok (.putfield 19, 3) := by decide +kernel
theorem dX0_join_48 : decode cX0_join 48 = .ok (.return_, 1) := by decide +kernel
theorem dX0_cutAll_0 : decode cX0_cutAll 0 = .ok (.iconst 0, 1) := by decide +kernel
theorem dX0_cutAll_1 : decode cX0_cutAll 1 = .ok (.istore_n 1, 1) := by decide +kernel
theorem dX0_cutAll_2 : decode cX0_cutAll 2 = .ok (.iload_n 1, 1) := by decide +kernel
theorem dX0_cutAll_3 : decode cX0_cutAll 3 = .ok (.aload_n 0, 1) := by decide +kernel
theorem dX0_cutAll_4 : decode cX0_cutAll 4 = .ok (.getfield 9, 3) := by decide +kernel
theorem dX0_cutAll_7 : decode cX0_cutAll 7 = .ok (.arraylength, 1) := by decide +kernel
theorem dX0_cutAll_8 : decode cX0_cutAll 8 = .ok (.if_icmp .ge 16, 3) := by decide +kernel
theorem dX0_cutAll_11 : decode cX0_cutAll 11 = .ok (.aload_n 0, 1) := by decide +kernel
theorem dX0_cutAll_12 : decode cX0_cutAll 12 = .ok (.getfield 9, 3) := by decide +kernel
theorem dX0_cutAll_15 : decode cX0_cutAll 15 = .ok (.iload_n 1, 1) := by decide +kernel
theorem dX0_cutAll_16 : decode cX0_cutAll 16 = .ok (.lconst 0, 1) := by decide +kernel
theorem dX0_cutAll_17 : decode cX0_cutAll 17 = .ok (.lastore, 1) := by decide +kernel
theorem dX0_cutAll_18 : decode cX0_cutAll 18 = .ok (.iinc 1 1, 3) := by decide +kernel
theorem dX0_cutAll_21 : decode cX0_cutAll 21 = .ok (.goto (-19), 3) := by decide +kernel
theorem dX0_cutAll_24 : decode cX0_cutAll 24 = .ok (.aload_n 0, 1) := by decide +kernel
theorem dX0_cutAll_25 : decode cX0_cutAll 25 = .ok (.iconst 0, 1) := by decide +kernel
theorem dX0_cutAll_26 : decode cX0_cutAll 26 = .ok (.putfield 19, 3) := by decide +kernel
theorem dX0_cutAll_29 : decode cX0_cutAll 29 = .ok (.return_, 1) := by decide +kernel
theorem dX1_init_0 : decode cX1_init 0 = .ok (.aload_n 0, 1) := by decide +kernel
theorem dX1_init_1 : decode cX1_init 1 = .ok (.invokespecial 3, 3) := by decide +kernel
theorem dX1_init_4 : decode cX1_init 4 = .ok (.aload_n 0, 1) := by decide +kernel
theorem dX1_init_5 : decode cX1_init 5 = .ok (.bipush 48, 2) := by decide +kernel
theorem dX1_init_7 : decode cX1_init 7 = .ok (.newarray .int, 2) := by decide +kernel
theorem dX1_init_9 : decode cX1_init 9 = .ok (.putfield 9, 3) := by decide +kernel
theorem dX1_init_12 : decode cX1_init 12 = .ok (.aload_n 0, 1) := by decide +kernel
theorem dX1_init_13 : decode cX1_init 13 = .ok (.bipush 48, 2) := by decide +kernel
theorem dX1_init_15 : decode cX1_init 15 = .ok (.newarray .int, 2) := by decide +kernel
theorem dX1_init_17 : decode cX1_init 17 = .ok (.putfield 15, 3) := by decide +kernel
theorem dX1_init_20 : decode cX1_init 20 = .ok (.aload_n 0, 1) := by decide +kernel
theorem dX1_init_21 : decode cX1_init 21 = .ok (.iconst 0, 1) := by decide +kernel
theorem dX1_init_22 : decode cX1_init 22 = .ok (.putfield 18, 3) := by decide +kernel
theorem dX1_init_25 : decode cX1_init 25 = .ok (.aload_n 0, 1) := by decide +kernel
theorem dX1_init_26 : decode cX1_init 26 = .ok (.bipush 48, 2) := by decide +kernel
theorem dX1_init_28 : decode cX1_init 28 = .ok (.newarray .long, 2) := by decide +kernel
theorem dX1_init_30 : decode cX1_init 30 = .ok (.putfield 22, 3) := by decide +kernel
theorem dX1_init_33 : decode cX1_init 33 = .ok (.aload_n 0, 1) := by decide +kernel
theorem dX1_init_34 : decode cX1_init 34 = .ok (.sipush 2304, 3) := by decide +kernel
theorem dX1_init_37 : decode cX1_init 37 = .ok (.newarray .int, 2) := by decide +kernel
theorem dX1_init_39 : decode cX1_init 39 = .ok (.putfield 26, 3) := by decide +kernel
theorem dX1_init_42 : decode cX1_init 42 = .ok (.aload_n 0, 1) := by decide +kernel
theorem dX1_init_43 : decode cX1_init 43 = .ok (.sipush 2304, 3) := by decide +kernel
theorem dX1_init_46 : decode cX1_init 46 = .ok (.newarray .int, 2) := by decide +kernel
theorem dX1_init_48 : decode cX1_init 48 = .ok (.putfield 29, 3) := by decide +kernel
theorem dX1_init_51 : decode cX1_init 51 = .ok (.return_, 1) := by decide +kernel
theorem dX1_forget_0 : decode cX1_forget 0 = .ok (.aload_n 0, 1) := by decide +kernel
theorem dX1_forget_1 : decode cX1_forget 1 = .ok (.iconst 0, 1) := by decide +kernel
theorem dX1_forget_2 : decode cX1_forget 2 = .ok (.putfield 18, 3) := by decide +kernel
theorem dX1_forget_5 : decode cX1_forget 5 = .ok (.iconst 0, 1) := by decide +kernel
theorem dX1_forget_6 : decode cX1_forget 6 = .ok (.istore_n 1, 1) := by decide +kernel
theorem dX1_forget_7 : decode cX1_forget 7 = .ok (.iload_n 1, 1) := by decide +kernel
theorem dX1_forget_8 : decode cX1_forget 8 = .ok (.aload_n 0, 1) := by decide +kernel
theorem dX1_forget_9 : decode cX1_forget 9 = .ok (.getfield 22, 3) := by decide +kernel
theorem dX1_forget_12 : decode cX1_forget 12 = .ok (.arraylength, 1) := by decide +kernel
theorem dX1_forget_13 : decode cX1_forget 13 = .ok (.if_icmp .ge 16, 3) := by decide +kernel
theorem dX1_forget_16 : decode cX1_forget 16 = .ok (.aload_n 0, 1) := by decide +kernel
theorem dX1_forget_17 : decode cX1_forget 17 = .ok (.getfield 22, 3) := by decide +kernel
theorem dX1_forget_20 : decode cX1_forget 20 = .ok (.iload_n 1, 1) := by decide +kernel
theorem dX1_forget_21 : decode cX1_forget 21 = .ok (.lconst 0, 1) := by decide +kernel
theorem dX1_forget_22 : decode cX1_forget 22 = .ok (.lastore, 1) := by decide +kernel
theorem dX1_forget_23 : decode cX1_forget 23 = .ok (.iinc 1 1, 3) := by decide +kernel
theorem dX1_forget_26 : decode cX1_forget 26 = .ok (.goto (-19), 3) := by decide +kernel
theorem dX1_forget_29 : decode cX1_forget 29 = .ok (.return_, 1) := by decide +kernel
set_option maxRecDepth 20000 in
theorem ggX1_rankAll_X0_size : GoodIn wsX1_rankAll wsX0_size := goodIn_r _ [5, 6, 34, 35, 36] (by decide +kernel) (by decide +kernel)
set_option maxRecDepth 20000 in
theorem gX1_rankAll_X0_size : GoodIn wsX1_rankAll (wsV RX1 32 RX0 yX0_size wsX0_size) := goodIn_app (goodIn_of _ (by decide +kernel)) ggX1_rankAll_X0_size
set_option maxRecDepth 20000 in
theorem ggX1_rankAll_X0_degree : GoodIn wsX1_rankAll wsX0_degree := goodIn_r _ [10, 11, 12, 13, 4, 14, 15, 16, 17, 18, 19, 20, 21, 22, 23, 24, 25, 34, 35, 36] (by decide +kernel) (by decide +kernel)
set_option maxRecDepth 20000 in
theorem gX1_rankAll_X0_degree : GoodIn wsX1_rankAll (wsV RX1 38 RX0 yX0_degree wsX0_degree) := goodIn_app (goodIn_of _ (by decide +kernel)) ggX1_rankAll_X0_degree
set_option maxRecDepth 20000 in
theorem ggX1_rankAll_X1_rankNext : GoodIn wsX1_rankAll wsX1_rankNext := goodIn_r _ [30, 31, 32, 33, 16, 17, 18, 37, 38, 39, 40, 41, 42] (by decide +kernel) (by decide +kernel)
set_option maxRecDepth 20000 in
theorem gX1_rankAll_X1_rankNext : GoodIn wsX1_rankAll (wsV RX1 42 RX1 yX1_rankNext wsX1_rankNext) := goodIn_app (goodIn_of _ (by decide +kernel)) ggX1_rankAll_X1_rankNext
theorem dX1_rankAll_0 : decode cX1_rankAll 0 = .ok (.bipush 47, 2) := by decide +kernel
theorem dX1_rankAll_2 : decode cX1_rankAll 2 = .ok (.istore_n 2, 1) := by decide +kernel
theorem dX1_rankAll_3 : decode cX1_rankAll 3 = .ok (.iload_n 2, 1) := by decide +kernel
theorem dX1_rankAll_4 : decode cX1_rankAll 4 = .ok (.ifCond .lt 39, 3) := by decide +kernel
theorem dX1_rankAll_7 : decode cX1_rankAll 7 = .ok (.iconst 0, 1) := by decide +kernel
theorem dX1_rankAll_8 : decode cX1_rankAll 8 = .ok (.istore_n 3, 1) := by decide +kernel
theorem dX1_rankAll_9 : decode cX1_rankAll 9 = .ok (.iload_n 3, 1) := by decide +kernel
theorem dX1_rankAll_10 : decode cX1_rankAll 10 = .ok (.aload_n 1, 1) := by decide +kernel
theorem dX1_rankAll_11 : decode cX1_rankAll 11 = .ok (.invokevirtual 32, 3) := by decide +kernel
theorem dX1_rankAll_14 : decode cX1_rankAll 14 = .ok (.if_icmp .ge 23, 3) := by decide +kernel
theorem dX1_rankAll_17 : decode cX1_rankAll 17 = .ok (.aload_n 1, 1) := by decide +kernel
theorem dX1_rankAll_18 : decode cX1_rankAll 18 = .ok (.iload_n 3, 1) := by decide +kernel
theorem dX1_rankAll_19 : decode cX1_rankAll 19 = .ok (.invokevirtual 38, 3) := by decide +kernel
theorem dX1_rankAll_22 : decode cX1_rankAll 22 = .ok (.iload_n 2, 1) := by decide +kernel
theorem dX1_rankAll_23 : decode cX1_rankAll 23 = .ok (.if_icmp .ne 8, 3) := by decide +kernel
theorem dX1_rankAll_26 : decode cX1_rankAll 26 = .ok (.aload_n 0, 1) := by decide +kernel
theorem dX1_rankAll_27 : decode cX1_rankAll 27 = .ok (.iload_n 3, 1) := by decide +kernel
theorem dX1_rankAll_28 : decode cX1_rankAll 28 = .ok (.invokevirtual 42, 3) := by decide +kernel
theorem dX1_rankAll_31 : decode cX1_rankAll 31 = .ok (.iinc 3 1, 3) := by decide +kernel
theorem dX1_rankAll_34 : decode cX1_rankAll 34 = .ok (.goto (-25), 3) := by decide +kernel
theorem dX1_rankAll_37 : decode cX1_rankAll 37 = .ok (.iinc 2 (-1), 3) := by decide +kernel
theorem dX1_rankAll_40 : decode cX1_rankAll 40 = .ok (.goto (-37), 3) := by decide +kernel
theorem dX1_rankAll_43 : decode cX1_rankAll 43 = .ok (.return_, 1) := by decide +kernel
set_option maxRecDepth 20000 in
theorem ggX1_rankNext_X3_isRow : GoodIn wsX1_rankNext wsX3_isRow := goodIn_r _ [6] (by decide +kernel) (by decide +kernel)
set_option maxRecDepth 20000 in
theorem gX1_rankNext_X3_isRow_n46 : GoodIn wsX1_rankNext (wsX3_isRow) := ggX1_rankNext_X3_isRow
theorem dX1_rankNext_0 : decode cX1_rankNext 0 = .ok (.iload_n 1, 1) := by decide +kernel
theorem dX1_rankNext_1 : decode cX1_rankNext 1 = .ok (.invokestatic 46, 3) := by decide +kernel
theorem dX1_rankNext_4 : decode cX1_rankNext 4 = .ok (.ifCond .eq 43, 3) := by decide +kernel
theorem dX1_rankNext_7 : decode cX1_rankNext 7 = .ok (.aload_n 0, 1) := by decide +kernel
theorem dX1_rankNext_8 : decode cX1_rankNext 8 = .ok (.getfield 18, 3) := by decide +kernel
theorem dX1_rankNext_11 : decode cX1_rankNext 11 = .ok (.invokestatic 46, 3) := by decide +kernel
theorem dX1_rankNext_14 : decode cX1_rankNext 14 = .ok (.ifCond .eq 33, 3) := by decide +kernel
theorem dX1_rankNext_17 : decode cX1_rankNext 17 = .ok (.aload_n 0, 1) := by decide +kernel
theorem dX1_rankNext_18 : decode cX1_rankNext 18 = .ok (.getfield 9, 3) := by decide +kernel
theorem dX1_rankNext_21 : decode cX1_rankNext 21 = .ok (.iload_n 1, 1) := by decide +kernel
theorem dX1_rankNext_22 : decode cX1_rankNext 22 = .ok (.aload_n 0, 1) := by decide +kernel
theorem dX1_rankNext_23 : decode cX1_rankNext 23 = .ok (.getfield 18, 3) := by decide +kernel
theorem dX1_rankNext_26 : decode cX1_rankNext 26 = .ok (.iastore, 1) := by decide +kernel
theorem dX1_rankNext_27 : decode cX1_rankNext 27 = .ok (.aload_n 0, 1) := by decide +kernel
theorem dX1_rankNext_28 : decode cX1_rankNext 28 = .ok (.getfield 15, 3) := by decide +kernel
theorem dX1_rankNext_31 : decode cX1_rankNext 31 = .ok (.aload_n 0, 1) := by decide +kernel
theorem dX1_rankNext_32 : decode cX1_rankNext 32 = .ok (.getfield 18, 3) := by decide +kernel
theorem dX1_rankNext_35 : decode cX1_rankNext 35 = .ok (.iload_n 1, 1) := by decide +kernel
theorem dX1_rankNext_36 : decode cX1_rankNext 36 = .ok (.iastore, 1) := by decide +kernel
theorem dX1_rankNext_37 : decode cX1_rankNext 37 = .ok (.aload_n 0, 1) := by decide +kernel
theorem dX1_rankNext_38 : decode cX1_rankNext 38 = .ok (.dup, 1) := by decide +kernel
theorem dX1_rankNext_39 : decode cX1_rankNext 39 = .ok (.getfield 18, 3) := by decide +kernel
theorem dX1_rankNext_42 : decode cX1_rankNext 42 = .ok (.iconst 1, 1) := by decide +kernel
theorem dX1_rankNext_43 : decode cX1_rankNext 43 = .ok (.iadd, 1) := by decide +kernel
theorem dX1_rankNext_44 : decode cX1_rankNext 44 = .ok (.putfield 18, 3) := by decide +kernel
theorem dX1_rankNext_47 : decode cX1_rankNext 47 = .ok (.return_, 1) := by decide +kernel
set_option maxRecDepth 20000 in
theorem ggX1_rankOf_X3_isRow : GoodIn wsX1_rankOf wsX3_isRow := goodIn_r _ [4] (by decide +kernel) (by decide +kernel)
set_option maxRecDepth 20000 in
theorem gX1_rankOf_X3_isRow_n46 : GoodIn wsX1_rankOf (wsX3_isRow) := ggX1_rankOf_X3_isRow
theorem dX1_rankOf_0 : decode cX1_rankOf 0 = .ok (.iload_n 1, 1) := by decide +kernel
theorem dX1_rankOf_1 : decode cX1_rankOf 1 = .ok (.invokestatic 46, 3) := by decide +kernel
theorem dX1_rankOf_4 : decode cX1_rankOf 4 = .ok (.ifCond .eq 12, 3) := by decide +kernel
theorem dX1_rankOf_7 : decode cX1_rankOf 7 = .ok (.aload_n 0, 1) := by decide +kernel
theorem dX1_rankOf_8 : decode cX1_rankOf 8 = .ok (.getfield 9, 3) := by decide +kernel
theorem dX1_rankOf_11 : decode cX1_rankOf 11 = .ok (.iload_n 1, 1) := by decide +kernel
theorem dX1_rankOf_12 : decode cX1_rankOf 12 = .ok (.iaload, 1) := by decide +kernel
theorem dX1_rankOf_13 : decode cX1_rankOf 13 = .ok (.goto 4, 3) := by decide +kernel
theorem dX1_rankOf_16 : decode cX1_rankOf 16 = .ok (.iconst (-1), 1) := by decide +kernel
theorem dX1_rankOf_17 : decode cX1_rankOf 17 = .ok (.ireturn, 1) := by decide +kernel
set_option maxRecDepth 20000 in
theorem ggX1_vertexOf_X3_isRow : GoodIn wsX1_vertexOf wsX3_isRow := goodIn_r _ [4] (by decide +kernel) (by decide +kernel)
set_option maxRecDepth 20000 in
theorem gX1_vertexOf_X3_isRow_n46 : GoodIn wsX1_vertexOf (wsX3_isRow) := ggX1_vertexOf_X3_isRow
theorem dX1_vertexOf_0 : decode cX1_vertexOf 0 = .ok (.iload_n 1, 1) := by decide +kernel
theorem dX1_vertexOf_1 : decode cX1_vertexOf 1 = .ok (.invokestatic 46, 3) := by decide +kernel
theorem dX1_vertexOf_4 : decode cX1_vertexOf 4 = .ok (.ifCond .eq 12, 3) := by decide +kernel
theorem dX1_vertexOf_7 : decode cX1_vertexOf 7 = .ok (.aload_n 0, 1) := by decide +kernel
theorem dX1_vertexOf_8 : decode cX1_vertexOf 8 = .ok (.getfield 15, 3) := by decide +kernel
theorem dX1_vertexOf_11 : decode cX1_vertexOf 11 = .ok (.iload_n 1, 1) := by decide +kernel
theorem dX1_vertexOf_12 : decode cX1_vertexOf 12 = .ok (.iaload, 1) := by decide +kernel
theorem dX1_vertexOf_13 : decode cX1_vertexOf 13 = .ok (.goto 4, 3) := by decide +kernel
theorem dX1_vertexOf_16 : decode cX1_vertexOf 16 = .ok (.iconst (-1), 1) := by decide +kernel
theorem dX1_vertexOf_17 : decode cX1_vertexOf 17 = .ok (.ireturn, 1) := by decide +kernel
set_option maxRecDepth 20000 in
theorem ggX1_put_X3_isRow : GoodIn wsX1_put wsX3_isRow := goodIn_r _ [6] (by decide +kernel) (by decide +kernel)
set_option maxRecDepth 20000 in
theorem gX1_put_X3_isRow_n46 : GoodIn wsX1_put (wsX3_isRow) := ggX1_put_X3_isRow
theorem dX1_put_0 : decode cX1_put 0 = .ok (.iload_n 1, 1) := by decide +kernel
theorem dX1_put_1 : decode cX1_put 1 = .ok (.invokestatic 46, 3) := by decide +kernel
theorem dX1_put_4 : decode cX1_put 4 = .ok (.ifCond .eq 47, 3) := by decide +kernel
theorem dX1_put_7 : decode cX1_put 7 = .ok (.iload_n 2, 1) := by decide +kernel
theorem dX1_put_8 : decode cX1_put 8 = .ok (.invokestatic 46, 3) := by decide +kernel
theorem dX1_put_11 : decode cX1_put 11 = .ok (.ifCond .eq 40, 3) := by decide +kernel
theorem dX1_put_14 : decode cX1_put 14 = .ok (.aload_n 0, 1) := by decide +kernel
theorem dX1_put_15 : decode cX1_put 15 = .ok (.getfield 22, 3) := by decide +kernel
theorem dX1_put_18 : decode cX1_put 18 = .ok (.iload_n 2, 1) := by decide +kernel
theorem dX1_put_19 : decode cX1_put 19 = .ok (.dup2, 1) := by decide +kernel
theorem dX1_put_20 : decode cX1_put 20 = .ok (.laload, 1) := by decide +kernel
theorem dX1_put_21 : decode cX1_put 21 = .ok (.lconst 1, 1) := by decide +kernel
theorem dX1_put_22 : decode cX1_put 22 = .ok (.iload_n 1, 1) := by decide +kernel
theorem dX1_put_23 : decode cX1_put 23 = .ok (.lshl, 1) := by decide +kernel
theorem dX1_put_24 : decode cX1_put 24 = .ok (.lor, 1) := by decide +kernel
theorem dX1_put_25 : decode cX1_put 25 = .ok (.lastore, 1) := by decide +kernel
theorem dX1_put_26 : decode cX1_put 26 = .ok (.aload_n 0, 1) := by decide +kernel
theorem dX1_put_27 : decode cX1_put 27 = .ok (.getfield 26, 3) := by decide +kernel
theorem dX1_put_30 : decode cX1_put 30 = .ok (.iload_n 2, 1) := by decide +kernel
theorem dX1_put_31 : decode cX1_put 31 = .ok (.bipush 48, 2) := by decide +kernel
theorem dX1_put_33 : decode cX1_put 33 = .ok (.imul, 1) := by decide +kernel
theorem dX1_put_34 : decode cX1_put 34 = .ok (.iload_n 1, 1) := by decide +kernel
theorem dX1_put_35 : decode cX1_put 35 = .ok (.iadd, 1) := by decide +kernel
theorem dX1_put_36 : decode cX1_put 36 = .ok (.iload_n 3, 1) := by decide +kernel
theorem dX1_put_37 : decode cX1_put 37 = .ok (.iastore, 1) := by decide +kernel
theorem dX1_put_38 : decode cX1_put 38 = .ok (.aload_n 0, 1) := by decide +kernel
theorem dX1_put_39 : decode cX1_put 39 = .ok (.getfield 29, 3) := by decide +kernel
theorem dX1_put_42 : decode cX1_put 42 = .ok (.iload_n 2, 1) := by decide +kernel
theorem dX1_put_43 : decode cX1_put 43 = .ok (.bipush 48, 2) := by decide +kernel
theorem dX1_put_45 : decode cX1_put 45 = .ok (.imul, 1) := by decide +kernel
theorem dX1_put_46 : decode cX1_put 46 = .ok (.iload_n 1, 1) := by decide +kernel
theorem dX1_put_47 : decode cX1_put 47 = .ok (.iadd, 1) := by decide +kernel
theorem dX1_put_48 : decode cX1_put 48 = .ok (.iload 4, 2) := by decide +kernel
theorem dX1_put_50 : decode cX1_put 50 = .ok (.iastore, 1) := by decide +kernel
theorem dX1_put_51 : decode cX1_put 51 = .ok (.return_, 1) := by decide +kernel
set_option maxRecDepth 20000 in
theorem ggX1_hasEntry_X3_isRow : GoodIn wsX1_hasEntry wsX3_isRow := goodIn_r _ [4] (by decide +kernel) (by decide +kernel)
set_option maxRecDepth 20000 in
theorem gX1_hasEntry_X3_isRow_n46 : GoodIn wsX1_hasEntry (wsX3_isRow) := ggX1_hasEntry_X3_isRow
set_option maxRecDepth 20000 in
theorem ggX1_hasEntry_X3_hasBit : GoodIn wsX1_hasEntry wsX3_hasBit := goodIn_r _ [6] (by decide +kernel) (by decide +kernel)
set_option maxRecDepth 20000 in
theorem gX1_hasEntry_X3_hasBit_n50 : GoodIn wsX1_hasEntry (wsX3_hasBit) := ggX1_hasEntry_X3_hasBit
theorem dX1_hasEntry_0 : decode cX1_hasEntry 0 = .ok (.iload_n 2, 1) := by decide +kernel
theorem dX1_hasEntry_1 : decode cX1_hasEntry 1 = .ok (.invokestatic 46, 3) := by decide +kernel
theorem dX1_hasEntry_4 : decode cX1_hasEntry 4 = .ok (.ifCond .eq 27, 3) := by decide +kernel
theorem dX1_hasEntry_7 : decode cX1_hasEntry 7 = .ok (.iload_n 1, 1) := by decide +kernel
theorem dX1_hasEntry_8 : decode cX1_hasEntry 8 = .ok (.invokestatic 46, 3) := by decide +kernel
theorem dX1_hasEntry_11 : decode cX1_hasEntry 11 = .ok (.ifCond .eq 20, 3) := by decide +kernel
theorem dX1_hasEntry_14 : decode cX1_hasEntry 14 = .ok (.aload_n 0, 1) := by decide +kernel
theorem dX1_hasEntry_15 : decode cX1_hasEntry 15 = .ok (.getfield 22, 3) := by decide +kernel
theorem dX1_hasEntry_18 : decode cX1_hasEntry 18 = .ok (.iload_n 2, 1) := by decide +kernel
theorem dX1_hasEntry_19 : decode cX1_hasEntry 19 = .ok (.laload, 1) := by decide +kernel
theorem dX1_hasEntry_20 : decode cX1_hasEntry 20 = .ok (.iload_n 1, 1) := by decide +kernel
theorem dX1_hasEntry_21 : decode cX1_hasEntry 21 = .ok (.invokestatic 50, 3) := by decide +kernel
theorem dX1_hasEntry_24 : decode cX1_hasEntry 24 = .ok (.ifCond .eq 7, 3) := by decide +kernel
theorem dX1_hasEntry_27 : decode cX1_hasEntry 27 = .ok (.iconst 1, 1) := by decide +kernel
theorem dX1_hasEntry_28 : decode cX1_hasEntry 28 = .ok (.goto 4, 3) := by decide +kernel
theorem dX1_hasEntry_31 : decode cX1_hasEntry 31 = .ok (.iconst 0, 1) := by decide +kernel
theorem dX1_hasEntry_32 : decode cX1_hasEntry 32 = .ok (.ireturn, 1) := by decide +kernel
set_option maxRecDepth 20000 in
theorem ggX1_distanceTo_X1_hasEntry : GoodIn wsX1_distanceTo wsX1_hasEntry := goodIn_r _ [6, 7, 8, 9, 10, 11, 12, 13, 14, 15, 16, 17, 18] (by decide +kernel) (by decide +kernel)
set_option maxRecDepth 20000 in
theorem gX1_distanceTo_X1_hasEntry : GoodIn wsX1_distanceTo (wsV RX1 54 RX1 yX1_hasEntry wsX1_hasEntry) := goodIn_app (goodIn_of _ (by decide +kernel)) ggX1_distanceTo_X1_hasEntry
theorem dX1_distanceTo_0 : decode cX1_distanceTo 0 = .ok (.aload_n 0, 1) := by decide +kernel
theorem dX1_distanceTo_1 : decode cX1_distanceTo 1 = .ok (.iload_n 1, 1) := by decide +kernel
theorem dX1_distanceTo_2 : decode cX1_distanceTo 2 = .ok (.iload_n 2, 1) := by decide +kernel
theorem dX1_distanceTo_3 : decode cX1_distanceTo 3 = .ok (.invokevirtual 54, 3) := by decide +kernel
theorem dX1_distanceTo_6 : decode cX1_distanceTo 6 = .ok (.ifCond .ne 5, 3) := by decide +kernel
theorem dX1_distanceTo_9 : decode cX1_distanceTo 9 = .ok (.iconst (-1), 1) := by decide +kernel
theorem dX1_distanceTo_10 : decode cX1_distanceTo 10 = .ok (.ireturn, 1) := by decide +kernel
theorem dX1_distanceTo_11 : decode cX1_distanceTo 11 = .ok (.aload_n 0, 1) := by decide +kernel
theorem dX1_distanceTo_12 : decode cX1_distanceTo 12 = .ok (.getfield 26, 3) := by decide +kernel
theorem dX1_distanceTo_15 : decode cX1_distanceTo 15 = .ok (.iload_n 2, 1) := by decide +kernel
theorem dX1_distanceTo_16 : decode cX1_distanceTo 16 = .ok (.bipush 48, 2) := by decide +kernel
theorem dX1_distanceTo_18 : decode cX1_distanceTo 18 = .ok (.imul, 1) := by decide +kernel
theorem dX1_distanceTo_19 : decode cX1_distanceTo 19 = .ok (.iload_n 1, 1) := by decide +kernel
theorem dX1_distanceTo_20 : decode cX1_distanceTo 20 = .ok (.iadd, 1) := by decide +kernel
theorem dX1_distanceTo_21 : decode cX1_distanceTo 21 = .ok (.iaload, 1) := by decide +kernel
theorem dX1_distanceTo_22 : decode cX1_distanceTo 22 = .ok (.ireturn, 1) := by decide +kernel
set_option maxRecDepth 20000 in
theorem ggX1_parentTowards_X1_hasEntry : GoodIn wsX1_parentTowards wsX1_hasEntry := goodIn_r _ [6, 7, 8, 9, 10, 11, 12, 13, 14, 15, 16, 17, 18] (by decide +kernel) (by decide +kernel)
set_option maxRecDepth 20000 in
theorem gX1_parentTowards_X1_hasEntry : GoodIn wsX1_parentTowards (wsV RX1 54 RX1 yX1_hasEntry wsX1_hasEntry) := goodIn_app (goodIn_of _ (by decide +kernel)) ggX1_parentTowards_X1_hasEntry
theorem dX1_parentTowards_0 : decode cX1_parentTowards 0 = .ok (.aload_n 0, 1) := by decide +kernel
theorem dX1_parentTowards_1 : decode cX1_parentTowards 1 = .ok (.iload_n 1, 1) := by decide +kernel
theorem dX1_parentTowards_2 : decode cX1_parentTowards 2 = .ok (.iload_n 2, 1) := by decide +kernel
theorem dX1_parentTowards_3 : decode cX1_parentTowards 3 = .ok (.invokevirtual 54, 3) := by decide +kernel
theorem dX1_parentTowards_6 : decode cX1_parentTowards 6 = .ok (.ifCond .ne 5, 3) := by decide +kernel
theorem dX1_parentTowards_9 : decode cX1_parentTowards 9 = .ok (.iconst (-1), 1) := by decide +kernel
theorem dX1_parentTowards_10 : decode cX1_parentTowards 10 = .ok (.ireturn, 1) := by decide +kernel
theorem dX1_parentTowards_11 : decode cX1_parentTowards 11 = .ok (.aload_n 0, 1) := by decide +kernel
theorem dX1_parentTowards_12 : decode cX1_parentTowards 12 = .ok (.getfield 29, 3) := by decide +kernel
theorem dX1_parentTowards_15 : decode cX1_parentTowards 15 = .ok (.iload_n 2, 1) := by decide +kernel
theorem dX1_parentTowards_16 : decode cX1_parentTowards 16 = .ok (.bipush 48, 2) := by decide +kernel
theorem dX1_parentTowards_18 : decode cX1_parentTowards 18 = .ok (.imul, 1) := by decide +kernel
theorem dX1_parentTowards_19 : decode cX1_parentTowards 19 = .ok (.iload_n 1, 1) := by decide +kernel
theorem dX1_parentTowards_20 : decode cX1_parentTowards 20 = .ok (.iadd, 1) := by decide +kernel
theorem dX1_parentTowards_21 : decode cX1_parentTowards 21 = .ok (.iaload, 1) := by decide +kernel
theorem dX1_parentTowards_22 : decode cX1_parentTowards 22 = .ok (.ireturn, 1) := by decide +kernel
set_option maxRecDepth 20000 in
theorem ggX1_countOf_X3_isRow : GoodIn wsX1_countOf wsX3_isRow := goodIn_r _ [4] (by decide +kernel) (by decide +kernel)
set_option maxRecDepth 20000 in
theorem gX1_countOf_X3_isRow_n46 : GoodIn wsX1_countOf (wsX3_isRow) := ggX1_countOf_X3_isRow
set_option maxRecDepth 20000 in
theorem ggX1_countOf_J13_bitCount_95d88 : GoodIn wsX1_countOf wsJ13_bitCount_95d88 := goodIn_r _ [8, 9, 10, 11] (by decide +kernel) (by decide +kernel)
set_option maxRecDepth 20000 in
theorem gX1_countOf_J13_bitCount_95d88 : GoodIn wsX1_countOf (va_wsS RX1 58 yJ13_bitCount_95d88 wsJ13_bitCount_95d88) := goodIn_app (goodIn_of _ (by decide +kernel)) ggX1_countOf_J13_bitCount_95d88
theorem dX1_countOf_0 : decode cX1_countOf 0 = .ok (.iload_n 1, 1) := by decide +kernel
theorem dX1_countOf_1 : decode cX1_countOf 1 = .ok (.invokestatic 46, 3) := by decide +kernel
theorem dX1_countOf_4 : decode cX1_countOf 4 = .ok (.ifCond .eq 15, 3) := by decide +kernel
theorem dX1_countOf_7 : decode cX1_countOf 7 = .ok (.aload_n 0, 1) := by decide +kernel
theorem dX1_countOf_8 : decode cX1_countOf 8 = .ok (.getfield 22, 3) := by decide +kernel
theorem dX1_countOf_11 : decode cX1_countOf 11 = .ok (.iload_n 1, 1) := by decide +kernel
theorem dX1_countOf_12 : decode cX1_countOf 12 = .ok (.laload, 1) := by decide +kernel
theorem dX1_countOf_13 : decode cX1_countOf 13 = .ok (.invokestatic 58, 3) := by decide +kernel
theorem dX1_countOf_16 : decode cX1_countOf 16 = .ok (.goto 4, 3) := by decide +kernel
theorem dX1_countOf_19 : decode cX1_countOf 19 = .ok (.iconst 0, 1) := by decide +kernel
theorem dX1_countOf_20 : decode cX1_countOf 20 = .ok (.ireturn, 1) := by decide +kernel
set_option maxRecDepth 20000 in
theorem ggX1_countAll_X1_countOf : GoodIn wsX1_countAll wsX1_countOf := goodIn_r _ [5, 6, 7, 8, 9, 10, 11, 12, 13, 14, 15, 16, 17, 18, 19, 20, 21, 22] (by decide +kernel) (by decide +kernel)
set_option maxRecDepth 20000 in
theorem gX1_countAll_X1_countOf : GoodIn wsX1_countAll (wsV RX1 64 RX1 yX1_countOf wsX1_countOf) := goodIn_app (goodIn_of _ (by decide +kernel)) ggX1_countAll_X1_countOf
theorem dX1_countAll_0 : decode cX1_countAll 0 = .ok (.iconst 0, 1) := by decide +kernel
theorem dX1_countAll_1 : decode cX1_countAll 1 = .ok (.istore_n 1, 1) := by decide +kernel
theorem dX1_countAll_2 : decode cX1_countAll 2 = .ok (.iconst 0, 1) := by decide +kernel
theorem dX1_countAll_3 : decode cX1_countAll 3 = .ok (.istore_n 2, 1) := by decide +kernel
theorem dX1_countAll_4 : decode cX1_countAll 4 = .ok (.iload_n 2, 1) := by decide +kernel
theorem dX1_countAll_5 : decode cX1_countAll 5 = .ok (.bipush 48, 2) := by decide +kernel
theorem dX1_countAll_7 : decode cX1_countAll 7 = .ok (.if_icmp .ge 17, 3) := by decide +kernel
theorem dX1_countAll_10 : decode cX1_countAll 10 = .ok (.iload_n 1, 1) := by decide +kernel
theorem dX1_countAll_11 : decode cX1_countAll 11 = .ok (.aload_n 0, 1) := by decide +kernel
theorem dX1_countAll_12 : decode cX1_countAll 12 = .ok (.iload_n 2, 1) := by decide +kernel
theorem dX1_countAll_13 : decode cX1_countAll 13 = .ok (.invokevirtual 64, 3) := by decide +kernel
theorem dX1_countAll_16 : decode cX1_countAll 16 = .ok (.iadd, 1) := by decide +kernel
theorem dX1_countAll_17 : decode cX1_countAll 17 = .ok (.istore_n 1, 1) := by decide +kernel
theorem dX1_countAll_18 : decode cX1_countAll 18 = .ok (.iinc 2 1, 3) := by decide +kernel
theorem dX1_countAll_21 : decode cX1_countAll 21 = .ok (.goto (-17), 3) := by decide +kernel
theorem dX1_countAll_24 : decode cX1_countAll 24 = .ok (.iload_n 1, 1) := by decide +kernel
theorem dX1_countAll_25 : decode cX1_countAll 25 = .ok (.ireturn, 1) := by decide +kernel
set_option maxRecDepth 20000 in
theorem ggX1_hubRankOfEntry_X3_isRow : GoodIn wsX1_hubRankOfEntry wsX3_isRow := goodIn_r _ [4] (by decide +kernel) (by decide +kernel)
set_option maxRecDepth 20000 in
theorem gX1_hubRankOfEntry_X3_isRow_n46 : GoodIn wsX1_hubRankOfEntry (wsX3_isRow) := ggX1_hubRankOfEntry_X3_isRow
set_option maxRecDepth 20000 in
theorem ggX1_hubRankOfEntry_X3_hasBit : GoodIn wsX1_hubRankOfEntry wsX3_hasBit := goodIn_r _ [6] (by decide +kernel) (by decide +kernel)
set_option maxRecDepth 20000 in
theorem gX1_hubRankOfEntry_X3_hasBit_n50 : GoodIn wsX1_hubRankOfEntry (wsX3_hasBit) := ggX1_hubRankOfEntry_X3_hasBit
theorem dX1_hubRankOfEntry_0 : decode cX1_hubRankOfEntry 0 = .ok (.iload_n 1, 1) := by decide +kernel
theorem dX1_hubRankOfEntry_1 : decode cX1_hubRankOfEntry 1 = .ok (.invokestatic 46, 3) := by decide +kernel
theorem dX1_hubRankOfEntry_4 : decode cX1_hubRankOfEntry 4 = .ok (.ifCond .ne 5, 3) := by decide +kernel
theorem dX1_hubRankOfEntry_7 : decode cX1_hubRankOfEntry 7 = .ok (.iconst (-1), 1) := by decide +kernel
theorem dX1_hubRankOfEntry_8 : decode cX1_hubRankOfEntry 8 = .ok (.ireturn, 1) := by decide +kernel
theorem dX1_hubRankOfEntry_9 : decode cX1_hubRankOfEntry 9 = .ok (.iconst 0, 1) := by decide +kernel
theorem dX1_hubRankOfEntry_10 : decode cX1_hubRankOfEntry 10 = .ok (.istore_n 3, 1) := by decide +kernel
theorem dX1_hubRankOfEntry_11 : decode cX1_hubRankOfEntry 11 = .ok (.iconst 0, 1) := by decide +kernel
theorem dX1_hubRankOfEntry_12 : decode cX1_hubRankOfEntry 12 = .ok (.istore 4, 2) := by decide +kernel
theorem dX1_hubRankOfEntry_14 : decode cX1_hubRankOfEntry 14 = .ok (.iload 4, 2) := by decide +kernel
theorem dX1_hubRankOfEntry_16 : decode cX1_hubRankOfEntry 16 = .ok (.bipush 48, 2) := by decide +kernel
theorem dX1_hubRankOfEntry_18 : decode cX1_hubRankOfEntry 18 = .ok (.if_icmp .ge 34, 3) := by decide +kernel
theorem dX1_hubRankOfEntry_21 : decode cX1_hubRankOfEntry 21 = .ok (.aload_n 0, 1) := by decide +kernel
theorem dX1_hubRankOfEntry_22 : decode cX1_hubRankOfEntry 22 = .ok (.getfield 22, 3) := by decide +kernel
theorem dX1_hubRankOfEntry_25 : decode cX1_hubRankOfEntry 25 = .ok (.iload_n 1, 1) := by decide +kernel
theorem dX1_hubRankOfEntry_26 : decode cX1_hubRankOfEntry 26 = .ok (.laload, 1) := by decide +kernel
theorem dX1_hubRankOfEntry_27 : decode cX1_hubRankOfEntry 27 = .ok (.iload 4, 2) := by decide +kernel
theorem dX1_hubRankOfEntry_29 : decode cX1_hubRankOfEntry 29 = .ok (.invokestatic 50, 3) := by decide +kernel
theorem dX1_hubRankOfEntry_32 : decode cX1_hubRankOfEntry 32 = .ok (.ifCond .eq 14, 3) := by decide +kernel
theorem dX1_hubRankOfEntry_35 : decode cX1_hubRankOfEntry 35 = .ok (.iload_n 3, 1) := by decide +kernel
theorem dX1_hubRankOfEntry_36 : decode cX1_hubRankOfEntry 36 = .ok (.iload_n 2, 1) := by decide +kernel
theorem dX1_hubRankOfEntry_37 : decode cX1_hubRankOfEntry 37 = .ok (.if_icmp .ne 6, 3) := by decide +kernel
theorem dX1_hubRankOfEntry_40 : decode cX1_hubRankOfEntry 40 = .ok (.iload 4, 2) := by decide +kernel
theorem dX1_hubRankOfEntry_42 : decode cX1_hubRankOfEntry 42 = .ok (.ireturn, 1) := by decide +kernel
theorem dX1_hubRankOfEntry_43 : decode cX1_hubRankOfEntry 43 = .ok (.iinc 3 1, 3) := by decide +kernel
theorem dX1_hubRankOfEntry_46 : decode cX1_hubRankOfEntry 46 = .ok (.iinc 4 1, 3) := by decide +kernel
theorem dX1_hubRankOfEntry_49 : decode cX1_hubRankOfEntry 49 = .ok (.goto (-35), 3) := by decide +kernel
theorem dX1_hubRankOfEntry_52 : decode cX1_hubRankOfEntry 52 = .ok (.iconst (-1), 1) := by decide +kernel
theorem dX1_hubRankOfEntry_53 : decode cX1_hubRankOfEntry 53 = .ok (.ireturn, 1) := by decide +kernel
set_option maxRecDepth 20000 in
theorem ggX1_reaches_X1_vertexOf : GoodIn wsX1_reaches wsX1_vertexOf := goodIn_r _ [5, 6, 7, 8, 9, 22, 23, 24, 25, 26, 27] (by decide +kernel) (by decide +kernel)
set_option maxRecDepth 20000 in
theorem gX1_reaches_X1_vertexOf : GoodIn wsX1_reaches (wsV RX1 67 RX1 yX1_vertexOf wsX1_vertexOf) := goodIn_app (goodIn_of _ (by decide +kernel)) ggX1_reaches_X1_vertexOf
set_option maxRecDepth 20000 in
theorem ggX1_reaches_X1_commonHubs : GoodIn wsX1_reaches wsX1_commonHubs := goodIn_r _ [13, 14, 7, 8, 9, 22, 23, 24, 25, 26, 27] (by decide +kernel) (by decide +kernel)
set_option maxRecDepth 20000 in
theorem gX1_reaches_X1_commonHubs : GoodIn wsX1_reaches (wsV RX1 70 RX1 yX1_commonHubs wsX1_commonHubs) := goodIn_app (goodIn_of _ (by decide +kernel)) ggX1_reaches_X1_commonHubs
set_option maxRecDepth 20000 in
theorem ggX1_reaches_X3_hasBit : GoodIn wsX1_reaches wsX3_hasBit := goodIn_r _ [16] (by decide +kernel) (by decide +kernel)
set_option maxRecDepth 20000 in
theorem gX1_reaches_X3_hasBit_n50 : GoodIn wsX1_reaches (wsX3_hasBit) := ggX1_reaches_X3_hasBit
set_option maxRecDepth 20000 in
theorem ggX1_reaches_X1_sumThrough : GoodIn wsX1_reaches wsX1_sumThrough := goodIn_r _ [20, 21, 7, 8, 9, 22, 23, 24, 25, 26, 27] (by decide +kernel) (by decide +kernel)
set_option maxRecDepth 20000 in
theorem gX1_reaches_X1_sumThrough : GoodIn wsX1_reaches (wsV RX1 74 RX1 yX1_sumThrough wsX1_sumThrough) := goodIn_app (goodIn_of _ (by decide +kernel)) ggX1_reaches_X1_sumThrough
theorem dX1_reaches_0 : decode cX1_reaches 0 = .ok (.aload_n 0, 1) := by decide +kernel
theorem dX1_reaches_1 : decode cX1_reaches 1 = .ok (.iload_n 1, 1) := by decide +kernel
theorem dX1_reaches_2 : decode cX1_reaches 2 = .ok (.invokevirtual 67, 3) := by decide +kernel
theorem dX1_reaches_5 : decode cX1_reaches 5 = .ok (.istore 4, 2) := by decide +kernel
theorem dX1_reaches_7 : decode cX1_reaches 7 = .ok (.aload_n 0, 1) := by decide +kernel
theorem dX1_reaches_8 : decode cX1_reaches 8 = .ok (.iload 4, 2) := by decide +kernel
theorem dX1_reaches_10 : decode cX1_reaches 10 = .ok (.iload_n 2, 1) := by decide +kernel
theorem dX1_reaches_11 : decode cX1_reaches 11 = .ok (.invokevirtual 70, 3) := by decide +kernel
theorem dX1_reaches_14 : decode cX1_reaches 14 = .ok (.lstore 5, 2) := by decide +kernel
theorem dX1_reaches_16 : decode cX1_reaches 16 = .ok (.iconst 0, 1) := by decide +kernel
theorem dX1_reaches_17 : decode cX1_reaches 17 = .ok (.istore 7, 2) := by decide +kernel
theorem dX1_reaches_19 : decode cX1_reaches 19 = .ok (.iload 7, 2) := by decide +kernel
theorem dX1_reaches_21 : decode cX1_reaches 21 = .ok (.iload_n 1, 1) := by decide +kernel
theorem dX1_reaches_22 : decode cX1_reaches 22 = .ok (.if_icmp .gt 41, 3) := by decide +kernel
theorem dX1_reaches_25 : decode cX1_reaches 25 = .ok (.iload 7, 2) := by decide +kernel
theorem dX1_reaches_27 : decode cX1_reaches 27 = .ok (.bipush 48, 2) := by decide +kernel
theorem dX1_reaches_29 : decode cX1_reaches 29 = .ok (.if_icmp .ge 34, 3) := by decide +kernel
theorem dX1_reaches_32 : decode cX1_reaches 32 = .ok (.lload 5, 2) := by decide +kernel
theorem dX1_reaches_34 : decode cX1_reaches 34 = .ok (.iload 7, 2) := by decide +kernel
theorem dX1_reaches_36 : decode cX1_reaches 36 = .ok (.invokestatic 50, 3) := by decide +kernel
theorem dX1_reaches_39 : decode cX1_reaches 39 = .ok (.ifCond .eq 18, 3) := by decide +kernel
theorem dX1_reaches_42 : decode cX1_reaches 42 = .ok (.aload_n 0, 1) := by decide +kernel
theorem dX1_reaches_43 : decode cX1_reaches 43 = .ok (.iload 7, 2) := by decide +kernel
theorem dX1_reaches_45 : decode cX1_reaches 45 = .ok (.iload 4, 2) := by decide +kernel
theorem dX1_reaches_47 : decode cX1_reaches 47 = .ok (.iload_n 2, 1) := by decide +kernel
theorem dX1_reaches_48 : decode cX1_reaches 48 = .ok (.invokevirtual 74, 3) := by decide +kernel
theorem dX1_reaches_51 : decode cX1_reaches 51 = .ok (.iload_n 3, 1) := by decide +kernel
theorem dX1_reaches_52 : decode cX1_reaches 52 = .ok (.if_icmp .gt 5, 3) := by decide +kernel
theorem dX1_reaches_55 : decode cX1_reaches 55 = .ok (.iconst 1, 1) := by decide +kernel
theorem dX1_reaches_56 : decode cX1_reaches 56 = .ok (.ireturn, 1) := by decide +kernel
theorem dX1_reaches_57 : decode cX1_reaches 57 = .ok (.iinc 7 1, 3) := by decide +kernel
theorem dX1_reaches_60 : decode cX1_reaches 60 = .ok (.goto (-41), 3) := by decide +kernel
theorem dX1_reaches_63 : decode cX1_reaches 63 = .ok (.iconst 0, 1) := by decide +kernel
theorem dX1_reaches_64 : decode cX1_reaches 64 = .ok (.ireturn, 1) := by decide +kernel
set_option maxRecDepth 20000 in
theorem ggX1_meetingRank_X1_commonHubs : GoodIn wsX1_meetingRank wsX1_commonHubs := goodIn_r _ [5, 6, 7, 8, 9, 17, 18, 19, 20, 21, 22] (by decide +kernel) (by decide +kernel)
set_option maxRecDepth 20000 in
theorem gX1_meetingRank_X1_commonHubs : GoodIn wsX1_meetingRank (wsV RX1 70 RX1 yX1_commonHubs wsX1_commonHubs) := goodIn_app (goodIn_of _ (by decide +kernel)) ggX1_meetingRank_X1_commonHubs
set_option maxRecDepth 20000 in
theorem ggX1_meetingRank_X3_hasBit : GoodIn wsX1_meetingRank wsX3_hasBit := goodIn_r _ [11] (by decide +kernel) (by decide +kernel)
set_option maxRecDepth 20000 in
theorem gX1_meetingRank_X3_hasBit_n50 : GoodIn wsX1_meetingRank (wsX3_hasBit) := ggX1_meetingRank_X3_hasBit
set_option maxRecDepth 20000 in
theorem ggX1_meetingRank_X1_sumThrough : GoodIn wsX1_meetingRank wsX1_sumThrough := goodIn_r _ [15, 16, 7, 8, 9, 17, 18, 19, 20, 21, 22] (by decide +kernel) (by decide +kernel)
set_option maxRecDepth 20000 in
theorem gX1_meetingRank_X1_sumThrough : GoodIn wsX1_meetingRank (wsV RX1 74 RX1 yX1_sumThrough wsX1_sumThrough) := goodIn_app (goodIn_of _ (by decide +kernel)) ggX1_meetingRank_X1_sumThrough
theorem dX1_meetingRank_0 : decode cX1_meetingRank 0 = .ok (.aload_n 0, 1) := by decide +kernel
theorem dX1_meetingRank_1 : decode cX1_meetingRank 1 = .ok (.iload_n 1, 1) := by decide +kernel
theorem dX1_meetingRank_2 : decode cX1_meetingRank 2 = .ok (.iload_n 2, 1) := by decide +kernel
theorem dX1_meetingRank_3 : decode cX1_meetingRank 3 = .ok (.invokevirtual 70, 3) := by decide +kernel
theorem dX1_meetingRank_6 : decode cX1_meetingRank 6 = .ok (.lstore_n 3, 1) := by decide +kernel
theorem dX1_meetingRank_7 : decode cX1_meetingRank 7 = .ok (.iconst (-1), 1) := by decide +kernel
theorem dX1_meetingRank_8 : decode cX1_meetingRank 8 = .ok (.istore 5, 2) := by decide +kernel
theorem dX1_meetingRank_10 : decode cX1_meetingRank 10 = .ok (.iconst 0, 1) := by decide +kernel
theorem dX1_meetingRank_11 : decode cX1_meetingRank 11 = .ok (.istore 6, 2) := by decide +kernel
theorem dX1_meetingRank_13 : decode cX1_meetingRank 13 = .ok (.iload 6, 2) := by decide +kernel
theorem dX1_meetingRank_15 : decode cX1_meetingRank 15 = .ok (.bipush 48, 2) := by decide +kernel
theorem dX1_meetingRank_17 : decode cX1_meetingRank 17 = .ok (.if_icmp .ge 47, 3) := by decide +kernel
theorem dX1_meetingRank_20 : decode cX1_meetingRank 20 = .ok (.lload_n 3, 1) := by decide +kernel
theorem dX1_meetingRank_21 : decode cX1_meetingRank 21 = .ok (.iload 6, 2) := by decide +kernel
theorem dX1_meetingRank_23 : decode cX1_meetingRank 23 = .ok (.invokestatic 50, 3) := by decide +kernel
theorem dX1_meetingRank_26 : decode cX1_meetingRank 26 = .ok (.ifCond .eq 32, 3) := by decide +kernel
theorem dX1_meetingRank_29 : decode cX1_meetingRank 29 = .ok (.iload 5, 2) := by decide +kernel
theorem dX1_meetingRank_31 : decode cX1_meetingRank 31 = .ok (.iconst (-1), 1) := by decide +kernel
theorem dX1_meetingRank_32 : decode cX1_meetingRank 32 = .ok (.if_icmp .eq 22, 3) := by decide +kernel
theorem dX1_meetingRank_35 : decode cX1_meetingRank 35 = .ok (.aload_n 0, 1) := by decide +kernel
theorem dX1_meetingRank_36 : decode cX1_meetingRank 36 = .ok (.iload 6, 2) := by decide +kernel
theorem dX1_meetingRank_38 : decode cX1_meetingRank 38 = .ok (.iload_n 1, 1) := by decide +kernel
theorem dX1_meetingRank_39 : decode cX1_meetingRank 39 = .ok (.iload_n 2, 1) := by decide +kernel
theorem dX1_meetingRank_40 : decode cX1_meetingRank 40 = .ok (.invokevirtual 74, 3) := by decide +kernel
theorem dX1_meetingRank_43 : decode cX1_meetingRank 43 = .ok (.aload_n 0, 1) := by decide +kernel
theorem dX1_meetingRank_44 : decode cX1_meetingRank 44 = .ok (.iload 5, 2) := by decide +kernel
theorem dX1_meetingRank_46 : decode cX1_meetingRank 46 = .ok (.iload_n 1, 1) := by decide +kernel
theorem dX1_meetingRank_47 : decode cX1_meetingRank 47 = .ok (.iload_n 2, 1) := by decide +kernel
theorem dX1_meetingRank_48 : decode cX1_meetingRank 48 = .ok (.invokevirtual 74, 3) := by decide +kernel
theorem dX1_meetingRank_51 : decode cX1_meetingRank 51 = .ok (.if_icmp .ge 7, 3) := by decide +kernel
theorem dX1_meetingRank_54 : decode cX1_meetingRank 54 = .ok (.iload 6, 2) := by decide +kernel
theorem dX1_meetingRank_56 : decode cX1_meetingRank 56 = .ok (.istore 5, 2) := by decide +kernel
theorem dX1_meetingRank_58 : decode cX1_meetingRank 58 = .ok (.iinc 6 1, 3) := by decide +kernel
theorem dX1_meetingRank_61 : decode cX1_meetingRank 61 = .ok (.goto (-48), 3) := by decide +kernel
theorem dX1_meetingRank_64 : decode cX1_meetingRank 64 = .ok (.iload 5, 2) := by decide +kernel
theorem dX1_meetingRank_66 : decode cX1_meetingRank 66 = .ok (.ireturn, 1) := by decide +kernel
set_option maxRecDepth 20000 in
theorem ggX1_commonHubs_X3_isRow : GoodIn wsX1_commonHubs wsX3_isRow := goodIn_r _ [4] (by decide +kernel) (by decide +kernel)
set_option maxRecDepth 20000 in
theorem gX1_commonHubs_X3_isRow_n46 : GoodIn wsX1_commonHubs (wsX3_isRow) := ggX1_commonHubs_X3_isRow
theorem dX1_commonHubs_0 : decode cX1_commonHubs 0 = .ok (.iload_n 1, 1) := by decide +kernel
theorem dX1_commonHubs_1 : decode cX1_commonHubs 1 = .ok (.invokestatic 46, 3) := by decide +kernel
theorem dX1_commonHubs_4 : decode cX1_commonHubs 4 = .ok (.ifCond .eq 26, 3) := by decide +kernel
theorem dX1_commonHubs_7 : decode cX1_commonHubs 7 = .ok (.iload_n 2, 1) := by decide +kernel
theorem dX1_commonHubs_8 : decode cX1_commonHubs 8 = .ok (.invokestatic 46, 3) := by decide +kernel
theorem dX1_commonHubs_11 : decode cX1_commonHubs 11 = .ok (.ifCond .eq 19, 3) := by decide +kernel
theorem dX1_commonHubs_14 : decode cX1_commonHubs 14 = .ok (.aload_n 0, 1) := by decide +kernel
theorem dX1_commonHubs_15 : decode cX1_commonHubs 15 = .ok (.getfield 22, 3) := by decide +kernel
theorem dX1_commonHubs_18 : decode cX1_commonHubs 18 = .ok (.iload_n 1, 1) := by decide +kernel
theorem dX1_commonHubs_19 : decode cX1_commonHubs 19 = .ok (.laload, 1) := by decide +kernel
theorem dX1_commonHubs_20 : decode cX1_commonHubs 20 = .ok (.aload_n 0, 1) := by decide +kernel
theorem dX1_commonHubs_21 : decode cX1_commonHubs 21 = .ok (.getfield 22, 3) := by decide +kernel
theorem dX1_commonHubs_24 : decode cX1_commonHubs 24 = .ok (.iload_n 2, 1) := by decide +kernel
theorem dX1_commonHubs_25 : decode cX1_commonHubs 25 = .ok (.laload, 1) := by decide +kernel
theorem dX1_commonHubs_26 : decode cX1_commonHubs 26 = .ok (.land, 1) := by decide +kernel
theorem dX1_commonHubs_27 : decode cX1_commonHubs 27 = .ok (.goto 4, 3) := by decide +kernel
theorem dX1_commonHubs_30 : decode cX1_commonHubs 30 = .ok (.lconst 0, 1) := by decide +kernel
theorem dX1_commonHubs_31 : decode cX1_commonHubs 31 = .ok (.lreturn, 1) := by decide +kernel
set_option maxRecDepth 20000 in
theorem ggX1_sumThrough_X3_isRow : GoodIn wsX1_sumThrough wsX3_isRow := goodIn_r _ [4] (by decide +kernel) (by decide +kernel)
set_option maxRecDepth 20000 in
theorem gX1_sumThrough_X3_isRow_n46 : GoodIn wsX1_sumThrough (wsX3_isRow) := ggX1_sumThrough_X3_isRow
theorem dX1_sumThrough_0 : decode cX1_sumThrough 0 = .ok (.iload_n 1, 1) := by decide +kernel
theorem dX1_sumThrough_1 : decode cX1_sumThrough 1 = .ok (.invokestatic 46, 3) := by decide +kernel
theorem dX1_sumThrough_4 : decode cX1_sumThrough 4 = .ok (.ifCond .eq 17, 3) := by decide +kernel
theorem dX1_sumThrough_7 : decode cX1_sumThrough 7 = .ok (.iload_n 2, 1) := by decide +kernel
theorem dX1_sumThrough_8 : decode cX1_sumThrough 8 = .ok (.invokestatic 46, 3) := by decide +kernel
theorem dX1_sumThrough_11 : decode cX1_sumThrough 11 = .ok (.ifCond .eq 10, 3) := by decide +kernel
theorem dX1_sumThrough_14 : decode cX1_sumThrough 14 = .ok (.iload_n 3, 1) := by decide +kernel
theorem dX1_sumThrough_15 : decode cX1_sumThrough 15 = .ok (.invokestatic 46, 3) := by decide +kernel
theorem dX1_sumThrough_18 : decode cX1_sumThrough 18 = .ok (.ifCond .ne 5, 3) := by decide +kernel
theorem dX1_sumThrough_21 : decode cX1_sumThrough 21 = .ok (.iconst (-1), 1) := by decide +kernel
theorem dX1_sumThrough_22 : decode cX1_sumThrough 22 = .ok (.ireturn, 1) := by decide +kernel
theorem dX1_sumThrough_23 : decode cX1_sumThrough 23 = .ok (.aload_n 0, 1) := by decide +kernel
theorem dX1_sumThrough_24 : decode cX1_sumThrough 24 = .ok (.getfield 26, 3) := by decide +kernel
theorem dX1_sumThrough_27 : decode cX1_sumThrough 27 = .ok (.iload_n 2, 1) := by decide +kernel
theorem dX1_sumThrough_28 : decode cX1_sumThrough 28 = .ok (.bipush 48, 2) := by decide +kernel
theorem dX1_sumThrough_30 : decode cX1_sumThrough 30 = .ok (.imul, 1) := by decide +kernel
theorem dX1_sumThrough_31 : decode cX1_sumThrough 31 = .ok (.iload_n 1, 1) := by decide +kernel
theorem dX1_sumThrough_32 : decode cX1_sumThrough 32 = .ok (.iadd, 1) := by decide +kernel
theorem dX1_sumThrough_33 : decode cX1_sumThrough 33 = .ok (.iaload, 1) := by decide +kernel
theorem dX1_sumThrough_34 : decode cX1_sumThrough 34 = .ok (.aload_n 0, 1) := by decide +kernel
theorem dX1_sumThrough_35 : decode cX1_sumThrough 35 = .ok (.getfield 26, 3) := by decide +kernel
theorem dX1_sumThrough_38 : decode cX1_sumThrough 38 = .ok (.iload_n 3, 1) := by decide +kernel
theorem dX1_sumThrough_39 : decode cX1_sumThrough 39 = .ok (.bipush 48, 2) := by decide +kernel
theorem dX1_sumThrough_41 : decode cX1_sumThrough 41 = .ok (.imul, 1) := by decide +kernel
theorem dX1_sumThrough_42 : decode cX1_sumThrough 42 = .ok (.iload_n 1, 1) := by decide +kernel
theorem dX1_sumThrough_43 : decode cX1_sumThrough 43 = .ok (.iadd, 1) := by decide +kernel
theorem dX1_sumThrough_44 : decode cX1_sumThrough 44 = .ok (.iaload, 1) := by decide +kernel
theorem dX1_sumThrough_45 : decode cX1_sumThrough 45 = .ok (.iadd, 1) := by decide +kernel
theorem dX1_sumThrough_46 : decode cX1_sumThrough 46 = .ok (.ireturn, 1) := by decide +kernel
set_option maxRecDepth 20000 in
theorem ggX1_estimate_X1_meetingRank : GoodIn wsX1_estimate wsX1_meetingRank := goodIn_r _ [5, 6, 7, 8, 4, 9, 10, 11, 12, 13, 14, 15, 16, 17, 18, 19, 20, 21, 22, 23, 24, 25, 26] (by decide +kernel) (by decide +kernel)
set_option maxRecDepth 20000 in
theorem gX1_estimate_X1_meetingRank : GoodIn wsX1_estimate (wsV RX1 78 RX1 yX1_meetingRank wsX1_meetingRank) := goodIn_app (goodIn_of _ (by decide +kernel)) ggX1_estimate_X1_meetingRank
set_option maxRecDepth 20000 in
theorem ggX1_estimate_X1_sumThrough : GoodIn wsX1_estimate wsX1_sumThrough := goodIn_r _ [19, 20, 11, 12, 13, 21, 22, 23, 24, 25, 26] (by decide +kernel) (by decide +kernel)
set_option maxRecDepth 20000 in
theorem gX1_estimate_X1_sumThrough : GoodIn wsX1_estimate (wsV RX1 74 RX1 yX1_sumThrough wsX1_sumThrough) := goodIn_app (goodIn_of _ (by decide +kernel)) ggX1_estimate_X1_sumThrough
theorem dX1_estimate_0 : decode cX1_estimate 0 = .ok (.aload_n 0, 1) := by decide +kernel
theorem dX1_estimate_1 : decode cX1_estimate 1 = .ok (.iload_n 1, 1) := by decide +kernel
theorem dX1_estimate_2 : decode cX1_estimate 2 = .ok (.iload_n 2, 1) := by decide +kernel
theorem dX1_estimate_3 : decode cX1_estimate 3 = .ok (.invokevirtual 78, 3) := by decide +kernel
theorem dX1_estimate_6 : decode cX1_estimate 6 = .ok (.istore_n 3, 1) := by decide +kernel
theorem dX1_estimate_7 : decode cX1_estimate 7 = .ok (.iload_n 3, 1) := by decide +kernel
theorem dX1_estimate_8 : decode cX1_estimate 8 = .ok (.iconst (-1), 1) := by decide +kernel
theorem dX1_estimate_9 : decode cX1_estimate 9 = .ok (.if_icmp .ne 7, 3) := by decide +kernel
theorem dX1_estimate_12 : decode cX1_estimate 12 = .ok (.iconst (-1), 1) := by decide +kernel
theorem dX1_estimate_13 : decode cX1_estimate 13 = .ok (.goto 10, 3) := by decide +kernel
theorem dX1_estimate_16 : decode cX1_estimate 16 = .ok (.aload_n 0, 1) := by decide +kernel
theorem dX1_estimate_17 : decode cX1_estimate 17 = .ok (.iload_n 3, 1) := by decide +kernel
theorem dX1_estimate_18 : decode cX1_estimate 18 = .ok (.iload_n 1, 1) := by decide +kernel
theorem dX1_estimate_19 : decode cX1_estimate 19 = .ok (.iload_n 2, 1) := by decide +kernel
theorem dX1_estimate_20 : decode cX1_estimate 20 = .ok (.invokevirtual 74, 3) := by decide +kernel
theorem dX1_estimate_23 : decode cX1_estimate 23 = .ok (.ireturn, 1) := by decide +kernel
set_option maxRecDepth 20000 in
theorem ggX1_vertexOnPath_X1_meetingRank : GoodIn wsX1_vertexOnPath wsX1_meetingRank := goodIn_r _ [5, 6, 7, 8, 4, 9, 10, 11, 12, 13, 14, 15, 16, 17, 18, 19, 20, 43, 44, 45, 46, 47, 48] (by decide +kernel) (by decide +kernel)
set_option maxRecDepth 20000 in
theorem gX1_vertexOnPath_X1_meetingRank : GoodIn wsX1_vertexOnPath (wsV RX1 78 RX1 yX1_meetingRank wsX1_meetingRank) := goodIn_app (goodIn_of _ (by decide +kernel)) ggX1_vertexOnPath_X1_meetingRank
set_option maxRecDepth 20000 in
theorem ggX1_vertexOnPath_X1_stepsTo : GoodIn wsX1_vertexOnPath wsX1_stepsTo := goodIn_r _ [24, 25, 26, 27, 4, 28, 29, 11, 12, 13, 30, 31, 32, 33, 34, 35, 36, 37, 38, 10, 14, 15, 43, 44, 45, 46, 47, 48] (by decide +kernel) (by decide +kernel)
set_option maxRecDepth 20000 in
theorem gX1_vertexOnPath_X1_stepsTo : GoodIn wsX1_vertexOnPath (wsV RX1 82 RX1 yX1_stepsTo wsX1_stepsTo) := goodIn_app (goodIn_of _ (by decide +kernel)) ggX1_vertexOnPath_X1_stepsTo
set_option maxRecDepth 20000 in
theorem ggX1_vertexOnPath_X1_climb : GoodIn wsX1_vertexOnPath wsX1_climb := goodIn_r _ [42, 30, 31, 32, 4, 33, 34, 35, 36, 37, 38, 10, 11, 12, 13, 14, 15, 43, 44, 45, 46, 47, 48] (by decide +kernel) (by decide +kernel)
set_option maxRecDepth 20000 in
theorem gX1_vertexOnPath_X1_climb : GoodIn wsX1_vertexOnPath (wsV RX1 85 RX1 yX1_climb wsX1_climb) := goodIn_app (goodIn_of _ (by decide +kernel)) ggX1_vertexOnPath_X1_climb
theorem dX1_vertexOnPath_0 : decode cX1_vertexOnPath 0 = .ok (.aload_n 0, 1) := by decide +kernel
theorem dX1_vertexOnPath_1 : decode cX1_vertexOnPath 1 = .ok (.iload_n 1, 1) := by decide +kernel
theorem dX1_vertexOnPath_2 : decode cX1_vertexOnPath 2 = .ok (.iload_n 2, 1) := by decide +kernel
theorem dX1_vertexOnPath_3 : decode cX1_vertexOnPath 3 = .ok (.invokevirtual 78, 3) := by decide +kernel
theorem dX1_vertexOnPath_6 : decode cX1_vertexOnPath 6 = .ok (.istore 4, 2) := by decide +kernel
theorem dX1_vertexOnPath_8 : decode cX1_vertexOnPath 8 = .ok (.iload 4, 2) := by decide +kernel
theorem dX1_vertexOnPath_10 : decode cX1_vertexOnPath 10 = .ok (.iconst (-1), 1) := by decide +kernel
theorem dX1_vertexOnPath_11 : decode cX1_vertexOnPath 11 = .ok (.if_icmp .ne 5, 3) := by decide +kernel
theorem dX1_vertexOnPath_14 : decode cX1_vertexOnPath 14 = .ok (.iconst (-1), 1) := by decide +kernel
theorem dX1_vertexOnPath_15 : decode cX1_vertexOnPath 15 = .ok (.ireturn, 1) := by decide +kernel
theorem dX1_vertexOnPath_16 : decode cX1_vertexOnPath 16 = .ok (.aload_n 0, 1) := by decide +kernel
theorem dX1_vertexOnPath_17 : decode cX1_vertexOnPath 17 = .ok (.iload 4, 2) := by decide +kernel
theorem dX1_vertexOnPath_19 : decode cX1_vertexOnPath 19 = .ok (.iload_n 1, 1) := by decide +kernel
theorem dX1_vertexOnPath_20 : decode cX1_vertexOnPath 20 = .ok (.invokevirtual 82, 3) := by decide +kernel
theorem dX1_vertexOnPath_23 : decode cX1_vertexOnPath 23 = .ok (.istore 5, 2) := by decide +kernel
theorem dX1_vertexOnPath_25 : decode cX1_vertexOnPath 25 = .ok (.aload_n 0, 1) := by decide +kernel
theorem dX1_vertexOnPath_26 : decode cX1_vertexOnPath 26 = .ok (.iload 4, 2) := by decide +kernel
theorem dX1_vertexOnPath_28 : decode cX1_vertexOnPath 28 = .ok (.iload_n 2, 1) := by decide +kernel
theorem dX1_vertexOnPath_29 : decode cX1_vertexOnPath 29 = .ok (.invokevirtual 82, 3) := by decide +kernel
theorem dX1_vertexOnPath_32 : decode cX1_vertexOnPath 32 = .ok (.istore 6, 2) := by decide +kernel
theorem dX1_vertexOnPath_34 : decode cX1_vertexOnPath 34 = .ok (.iload_n 3, 1) := by decide +kernel
theorem dX1_vertexOnPath_35 : decode cX1_vertexOnPath 35 = .ok (.iload 5, 2) := by decide +kernel
theorem dX1_vertexOnPath_37 : decode cX1_vertexOnPath 37 = .ok (.iload 6, 2) := by decide +kernel
theorem dX1_vertexOnPath_39 : decode cX1_vertexOnPath 39 = .ok (.iadd, 1) := by decide +kernel
theorem dX1_vertexOnPath_40 : decode cX1_vertexOnPath 40 = .ok (.if_icmp .le 5, 3) := by decide +kernel
theorem dX1_vertexOnPath_43 : decode cX1_vertexOnPath 43 = .ok (.iconst (-1), 1) := by decide +kernel
theorem dX1_vertexOnPath_44 : decode cX1_vertexOnPath 44 = .ok (.ireturn, 1) := by decide +kernel
theorem dX1_vertexOnPath_45 : decode cX1_vertexOnPath 45 = .ok (.iload_n 3, 1) := by decide +kernel
theorem dX1_vertexOnPath_46 : decode cX1_vertexOnPath 46 = .ok (.iload 5, 2) := by decide +kernel
theorem dX1_vertexOnPath_48 : decode cX1_vertexOnPath 48 = .ok (.if_icmp .gt 14, 3) := by decide +kernel
theorem dX1_vertexOnPath_51 : decode cX1_vertexOnPath 51 = .ok (.aload_n 0, 1) := by decide +kernel
theorem dX1_vertexOnPath_52 : decode cX1_vertexOnPath 52 = .ok (.iload 4, 2) := by decide +kernel
theorem dX1_vertexOnPath_54 : decode cX1_vertexOnPath 54 = .ok (.iload_n 1, 1) := by decide +kernel
theorem dX1_vertexOnPath_55 : decode cX1_vertexOnPath 55 = .ok (.iload_n 3, 1) := by decide +kernel
theorem dX1_vertexOnPath_56 : decode cX1_vertexOnPath 56 = .ok (.invokevirtual 85, 3) := by decide +kernel
theorem dX1_vertexOnPath_59 : decode cX1_vertexOnPath 59 = .ok (.goto 17, 3) := by decide +kernel
theorem dX1_vertexOnPath_62 : decode cX1_vertexOnPath 62 = .ok (.aload_n 0, 1) := by decide +kernel
theorem dX1_vertexOnPath_63 : decode cX1_vertexOnPath 63 = .ok (.iload 4, 2) := by decide +kernel
theorem dX1_vertexOnPath_65 : decode cX1_vertexOnPath 65 = .ok (.iload_n 2, 1) := by decide +kernel
theorem dX1_vertexOnPath_66 : decode cX1_vertexOnPath 66 = .ok (.iload 5, 2) := by decide +kernel
theorem dX1_vertexOnPath_68 : decode cX1_vertexOnPath 68 = .ok (.iload 6, 2) := by decide +kernel
theorem dX1_vertexOnPath_70 : decode cX1_vertexOnPath 70 = .ok (.iadd, 1) := by decide +kernel
theorem dX1_vertexOnPath_71 : decode cX1_vertexOnPath 71 = .ok (.iload_n 3, 1) := by decide +kernel
theorem dX1_vertexOnPath_72 : decode cX1_vertexOnPath 72 = .ok (.isub, 1) := by decide +kernel
theorem dX1_vertexOnPath_73 : decode cX1_vertexOnPath 73 = .ok (.invokevirtual 85, 3) := by decide +kernel
theorem dX1_vertexOnPath_76 : decode cX1_vertexOnPath 76 = .ok (.ireturn, 1) := by decide +kernel
set_option maxRecDepth 20000 in
theorem ggX1_stepsTo_X1_vertexOf : GoodIn wsX1_stepsTo wsX1_vertexOf := goodIn_r _ [5, 6, 7, 8, 9, 22, 23, 24, 25, 26, 27] (by decide +kernel) (by decide +kernel)
set_option maxRecDepth 20000 in
theorem gX1_stepsTo_X1_vertexOf : GoodIn wsX1_stepsTo (wsV RX1 67 RX1 yX1_vertexOf wsX1_vertexOf) := goodIn_app (goodIn_of _ (by decide +kernel)) ggX1_stepsTo_X1_vertexOf
set_option maxRecDepth 20000 in
theorem ggX1_stepsTo_X1_parentTowards : GoodIn wsX1_stepsTo wsX1_parentTowards := goodIn_r _ [13, 14, 15, 16, 17, 4, 18, 19, 7, 8, 9, 20, 21, 22, 23, 24, 25, 26, 27] (by decide +kernel) (by decide +kernel)
set_option maxRecDepth 20000 in
theorem gX1_stepsTo_X1_parentTowards : GoodIn wsX1_stepsTo (wsV RX1 88 RX1 yX1_parentTowards wsX1_parentTowards) := goodIn_app (goodIn_of _ (by decide +kernel)) ggX1_stepsTo_X1_parentTowards
theorem dX1_stepsTo_0 : decode cX1_stepsTo 0 = .ok (.aload_n 0, 1) := by decide +kernel
theorem dX1_stepsTo_1 : decode cX1_stepsTo 1 = .ok (.iload_n 1, 1) := by decide +kernel
theorem dX1_stepsTo_2 : decode cX1_stepsTo 2 = .ok (.invokevirtual 67, 3) := by decide +kernel
theorem dX1_stepsTo_5 : decode cX1_stepsTo 5 = .ok (.istore_n 3, 1) := by decide +kernel
theorem dX1_stepsTo_6 : decode cX1_stepsTo 6 = .ok (.iconst 0, 1) := by decide +kernel
theorem dX1_stepsTo_7 : decode cX1_stepsTo 7 = .ok (.istore 4, 2) := by decide +kernel
theorem dX1_stepsTo_9 : decode cX1_stepsTo 9 = .ok (.iload_n 2, 1) := by decide +kernel
theorem dX1_stepsTo_10 : decode cX1_stepsTo 10 = .ok (.istore 5, 2) := by decide +kernel
theorem dX1_stepsTo_12 : decode cX1_stepsTo 12 = .ok (.iload 5, 2) := by decide +kernel
theorem dX1_stepsTo_14 : decode cX1_stepsTo 14 = .ok (.iload_n 3, 1) := by decide +kernel
theorem dX1_stepsTo_15 : decode cX1_stepsTo 15 = .ok (.if_icmp .eq 25, 3) := by decide +kernel
theorem dX1_stepsTo_18 : decode cX1_stepsTo 18 = .ok (.iload 4, 2) := by decide +kernel
theorem dX1_stepsTo_20 : decode cX1_stepsTo 20 = .ok (.bipush 48, 2) := by decide +kernel
theorem dX1_stepsTo_22 : decode cX1_stepsTo 22 = .ok (.if_icmp .ge 18, 3) := by decide +kernel
theorem dX1_stepsTo_25 : decode cX1_stepsTo 25 = .ok (.aload_n 0, 1) := by decide +kernel
theorem dX1_stepsTo_26 : decode cX1_stepsTo 26 = .ok (.iload_n 1, 1) := by decide +kernel
theorem dX1_stepsTo_27 : decode cX1_stepsTo 27 = .ok (.iload 5, 2) := by decide +kernel
theorem dX1_stepsTo_29 : decode cX1_stepsTo 29 = .ok (.invokevirtual 88, 3) := by decide +kernel
theorem dX1_stepsTo_32 : decode cX1_stepsTo 32 = .ok (.istore 5, 2) := by decide +kernel
theorem dX1_stepsTo_34 : decode cX1_stepsTo 34 = .ok (.iinc 4 1, 3) := by decide +kernel
theorem dX1_stepsTo_37 : decode cX1_stepsTo 37 = .ok (.goto (-25), 3) := by decide +kernel
theorem dX1_stepsTo_40 : decode cX1_stepsTo 40 = .ok (.iload 4, 2) := by decide +kernel
theorem dX1_stepsTo_42 : decode cX1_stepsTo 42 = .ok (.ireturn, 1) := by decide +kernel
set_option maxRecDepth 20000 in
theorem ggX1_climb_X1_parentTowards : GoodIn wsX1_climb wsX1_parentTowards := goodIn_r _ [5, 6, 7, 8, 9, 4, 10, 11, 12, 13, 14, 15, 16, 17, 18, 19, 20, 21, 22] (by decide +kernel) (by decide +kernel)
set_option maxRecDepth 20000 in
theorem gX1_climb_X1_parentTowards : GoodIn wsX1_climb (wsV RX1 88 RX1 yX1_parentTowards wsX1_parentTowards) := goodIn_app (goodIn_of _ (by decide +kernel)) ggX1_climb_X1_parentTowards
theorem dX1_climb_0 : decode cX1_climb 0 = .ok (.iload_n 2, 1) := by decide +kernel
theorem dX1_climb_1 : decode cX1_climb 1 = .ok (.istore 4, 2) := by decide +kernel
theorem dX1_climb_3 : decode cX1_climb 3 = .ok (.iconst 0, 1) := by decide +kernel
theorem dX1_climb_4 : decode cX1_climb 4 = .ok (.istore 5, 2) := by decide +kernel
theorem dX1_climb_6 : decode cX1_climb 6 = .ok (.iload 5, 2) := by decide +kernel
theorem dX1_climb_8 : decode cX1_climb 8 = .ok (.iload_n 3, 1) := by decide +kernel
theorem dX1_climb_9 : decode cX1_climb 9 = .ok (.if_icmp .ge 25, 3) := by decide +kernel
theorem dX1_climb_12 : decode cX1_climb 12 = .ok (.iload 5, 2) := by decide +kernel
theorem dX1_climb_14 : decode cX1_climb 14 = .ok (.bipush 48, 2) := by decide +kernel
theorem dX1_climb_16 : decode cX1_climb 16 = .ok (.if_icmp .ge 18, 3) := by decide +kernel
theorem dX1_climb_19 : decode cX1_climb 19 = .ok (.aload_n 0, 1) := by decide +kernel
theorem dX1_climb_20 : decode cX1_climb 20 = .ok (.iload_n 1, 1) := by decide +kernel
theorem dX1_climb_21 : decode cX1_climb 21 = .ok (.iload 4, 2) := by decide +kernel
theorem dX1_climb_23 : decode cX1_climb 23 = .ok (.invokevirtual 88, 3) := by decide +kernel
theorem dX1_climb_26 : decode cX1_climb 26 = .ok (.istore 4, 2) := by decide +kernel
theorem dX1_climb_28 : decode cX1_climb 28 = .ok (.iinc 5 1, 3) := by decide +kernel
theorem dX1_climb_31 : decode cX1_climb 31 = .ok (.goto (-25), 3) := by decide +kernel
theorem dX1_climb_34 : decode cX1_climb 34 = .ok (.iload 4, 2) := by decide +kernel
theorem dX1_climb_36 : decode cX1_climb 36 = .ok (.ireturn, 1) := by decide +kernel
theorem dX2_init_0 : decode cX2_init 0 = .ok (.aload_n 0, 1) := by decide +kernel
theorem dX2_init_1 : decode cX2_init 1 = .ok (.invokespecial 3, 3) := by decide +kernel
theorem dX2_init_4 : decode cX2_init 4 = .ok (.aload_n 0, 1) := by decide +kernel
theorem dX2_init_5 : decode cX2_init 5 = .ok (.aload_n 1, 1) := by decide +kernel
theorem dX2_init_6 : decode cX2_init 6 = .ok (.putfield 9, 3) := by decide +kernel
theorem dX2_init_9 : decode cX2_init 9 = .ok (.aload_n 0, 1) := by decide +kernel
theorem dX2_init_10 : decode cX2_init 10 = .ok (.aload_n 2, 1) := by decide +kernel
theorem dX2_init_11 : decode cX2_init 11 = .ok (.putfield 15, 3) := by decide +kernel
theorem dX2_init_14 : decode cX2_init 14 = .ok (.aload_n 0, 1) := by decide +kernel
theorem dX2_init_15 : decode cX2_init 15 = .ok (.bipush 48, 2) := by decide +kernel
theorem dX2_init_17 : decode cX2_init 17 = .ok (.newarray .int, 2) := by decide +kernel
theorem dX2_init_19 : decode cX2_init 19 = .ok (.putfield 19, 3) := by decide +kernel
theorem dX2_init_22 : decode cX2_init 22 = .ok (.aload_n 0, 1) := by decide +kernel
theorem dX2_init_23 : decode cX2_init 23 = .ok (.bipush 48, 2) := by decide +kernel
theorem dX2_init_25 : decode cX2_init 25 = .ok (.newarray .int, 2) := by decide +kernel
theorem dX2_init_27 : decode cX2_init 27 = .ok (.putfield 23, 3) := by decide +kernel
theorem dX2_init_30 : decode cX2_init 30 = .ok (.aload_n 0, 1) := by decide +kernel
theorem dX2_init_31 : decode cX2_init 31 = .ok (.bipush 48, 2) := by decide +kernel
theorem dX2_init_33 : decode cX2_init 33 = .ok (.newarray .int, 2) := by decide +kernel
theorem dX2_init_35 : decode cX2_init 35 = .ok (.putfield 26, 3) := by decide +kernel
theorem dX2_init_38 : decode cX2_init 38 = .ok (.aload_n 0, 1) := by decide +kernel
theorem dX2_init_39 : decode cX2_init 39 = .ok (.iconst 0, 1) := by decide +kernel
theorem dX2_init_40 : decode cX2_init 40 = .ok (.putfield 29, 3) := by decide +kernel
theorem dX2_init_43 : decode cX2_init 43 = .ok (.aload_n 0, 1) := by decide +kernel
theorem dX2_init_44 : decode cX2_init 44 = .ok (.lconst 0, 1) := by decide +kernel
theorem dX2_init_45 : decode cX2_init 45 = .ok (.putfield 33, 3) := by decide +kernel
theorem dX2_init_48 : decode cX2_init 48 = .ok (.aload_n 0, 1) := by decide +kernel
theorem dX2_init_49 : decode cX2_init 49 = .ok (.iconst 0, 1) := by decide +kernel
theorem dX2_init_50 : decode cX2_init 50 = .ok (.putfield 37, 3) := by decide +kernel
theorem dX2_init_53 : decode cX2_init 53 = .ok (.aload_n 0, 1) := by decide +kernel
theorem dX2_init_54 : decode cX2_init 54 = .ok (.iconst 0, 1) := by decide +kernel
theorem dX2_init_55 : decode cX2_init 55 = .ok (.putfield 40, 3) := by decide +kernel
theorem dX2_init_58 : decode cX2_init 58 = .ok (.aload_n 0, 1) := by decide +kernel
theorem dX2_init_59 : decode cX2_init 59 = .ok (.iconst 0, 1) := by decide +kernel
theorem dX2_init_60 : decode cX2_init 60 = .ok (.putfield 43, 3) := by decide +kernel
theorem dX2_init_63 : decode cX2_init 63 = .ok (.return_, 1) := by decide +kernel
theorem dX2_forgetCounts_0 : decode cX2_forgetCounts 0 = .ok (.aload_n 0, 1) := by decide +kernel
theorem dX2_forgetCounts_1 : decode cX2_forgetCounts 1 = .ok (.iconst 0, 1) := by decide +kernel
theorem dX2_forgetCounts_2 : decode cX2_forgetCounts 2 = .ok (.putfield 37, 3) := by decide +kernel
theorem dX2_forgetCounts_5 : decode cX2_forgetCounts 5 = .ok (.aload_n 0, 1) := by decide +kernel
theorem dX2_forgetCounts_6 : decode cX2_forgetCounts 6 = .ok (.iconst 0, 1) := by decide +kernel
theorem dX2_forgetCounts_7 : decode cX2_forgetCounts 7 = .ok (.putfield 40, 3) := by decide +kernel
theorem dX2_forgetCounts_10 : decode cX2_forgetCounts 10 = .ok (.aload_n 0, 1) := by decide +kernel
theorem dX2_forgetCounts_11 : decode cX2_forgetCounts 11 = .ok (.iconst 0, 1) := by decide +kernel
theorem dX2_forgetCounts_12 : decode cX2_forgetCounts 12 = .ok (.putfield 43, 3) := by decide +kernel
theorem dX2_forgetCounts_15 : decode cX2_forgetCounts 15 = .ok (.return_, 1) := by decide +kernel
theorem dX2_countOfPruned_0 : decode cX2_countOfPruned 0 = .ok (.aload_n 0, 1) := by decide +kernel
theorem dX2_countOfPruned_1 : decode cX2_countOfPruned 1 = .ok (.getfield 40, 3) := by decide +kernel
theorem dX2_countOfPruned_4 : decode cX2_countOfPruned 4 = .ok (.ireturn, 1) := by decide +kernel
theorem dX2_countOfWritten_0 : decode cX2_countOfWritten 0 = .ok (.aload_n 0, 1) := by decide +kernel
theorem dX2_countOfWritten_1 : decode cX2_countOfWritten 1 = .ok (.getfield 43, 3) := by decide +kernel
theorem dX2_countOfWritten_4 : decode cX2_countOfWritten 4 = .ok (.ireturn, 1) := by decide +kernel
set_option maxRecDepth 20000 in
theorem ggX2_labelAll_X2_forgetCounts : GoodIn wsX2_labelAll wsX2_forgetCounts := goodIn_r _ [8, 3, 9, 10, 98, 99, 100, 101, 102, 103, 104, 105, 106, 107] (by decide +kernel) (by decide +kernel)
set_option maxRecDepth 20000 in
theorem gX2_labelAll_X2_forgetCounts : GoodIn wsX2_labelAll (wsV RX2 46 RX2 yX2_forgetCounts wsX2_forgetCounts) := goodIn_app (goodIn_of _ (by decide +kernel)) ggX2_labelAll_X2_forgetCounts
set_option maxRecDepth 20000 in
theorem ggX2_labelAll_X1_forget : GoodIn wsX2_labelAll wsX1_forget := goodIn_r _ [15, 16, 17, 108, 109, 110, 111, 112, 113] (by decide +kernel) (by decide +kernel)
set_option maxRecDepth 20000 in
theorem gX2_labelAll_X1_forget : GoodIn wsX2_labelAll (wsV RX2 49 RX1 yX1_forget wsX1_forget) := goodIn_app (goodIn_of _ (by decide +kernel)) ggX2_labelAll_X1_forget
set_option maxRecDepth 20000 in
theorem ggX2_labelAll_X1_rankAll : GoodIn wsX2_labelAll wsX1_rankAll := goodIn_r _ [21, 22, 23, 24, 25, 26, 27, 28, 29, 30, 31, 32, 33, 34, 35, 36, 37, 38, 39, 40, 41, 42, 43, 44, 45, 46, 47, 48, 49, 14, 50, 16, 51, 52, 114, 115, 116, 108, 109, 110, 111, 112, 113] (by decide +kernel) (by decide +kernel)
set_option maxRecDepth 20000 in
theorem gX2_labelAll_X1_rankAll : GoodIn wsX2_labelAll (wsV RX2 54 RX1 yX1_rankAll wsX1_rankAll) := goodIn_app (goodIn_of _ (by decide +kernel)) ggX2_labelAll_X1_rankAll
set_option maxRecDepth 20000 in
theorem ggX2_labelAll_X0_size : GoodIn wsX2_labelAll wsX0_size := goodIn_r _ [26, 27, 114, 115, 116] (by decide +kernel) (by decide +kernel)
set_option maxRecDepth 20000 in
theorem gX2_labelAll_X0_size : GoodIn wsX2_labelAll (wsV RX2 58 RX0 yX0_size wsX0_size) := goodIn_app (goodIn_of _ (by decide +kernel)) ggX2_labelAll_X0_size
set_option maxRecDepth 20000 in
theorem ggX2_labelAll_X1_vertexOf : GoodIn wsX2_labelAll wsX1_vertexOf := goodIn_r _ [57, 52, 37, 38, 39, 108, 109, 110, 111, 112, 113] (by decide +kernel) (by decide +kernel)
set_option maxRecDepth 20000 in
theorem gX2_labelAll_X1_vertexOf : GoodIn wsX2_labelAll (wsV RX2 64 RX1 yX1_vertexOf wsX1_vertexOf) := goodIn_app (goodIn_of _ (by decide +kernel)) ggX2_labelAll_X1_vertexOf
set_option maxRecDepth 20000 in
theorem ggX2_labelAll_X2_search : GoodIn wsX2_labelAll wsX2_search := goodIn_r _ [61, 62, 63, 64, 65, 66, 67, 68, 69, 7, 70, 37, 38, 39, 71, 72, 73, 74, 3, 1, 9, 10, 2, 75, 76, 77, 78, 14, 79, 80, 55, 56, 57, 52, 81, 82, 83, 84, 17, 85, 86, 87, 88, 89, 90, 91, 92, 93, 94, 95, 96, 97, 33, 34, 25, 35, 36, 53, 23, 24, 26, 27, 98, 99, 100, 101, 102, 103, 104, 105, 106, 107, 108, 109, 110, 111, 112, 113, 114, 115, 116] (by decide +kernel) (by decide +kernel)
set_option maxRecDepth 20000 in
theorem gX2_labelAll_X2_search : GoodIn wsX2_labelAll (wsV RX2 68 RX2 yX2_search wsX2_search) := goodIn_app (goodIn_of _ (by decide +kernel)) ggX2_labelAll_X2_search
theorem dX2_labelAll_0 : decode cX2_labelAll 0 = .ok (.aload_n 0, 1) := by decide +kernel
theorem dX2_labelAll_1 : decode cX2_labelAll 1 = .ok (.invokevirtual 46, 3) := by decide +kernel
theorem dX2_labelAll_4 : decode cX2_labelAll 4 = .ok (.aload_n 0, 1) := by decide +kernel
theorem dX2_labelAll_5 : decode cX2_labelAll 5 = .ok (.getfield 15, 3) := by decide +kernel
theorem dX2_labelAll_8 : decode cX2_labelAll 8 = .ok (.invokevirtual 49, 3) := by decide +kernel
theorem dX2_labelAll_11 : decode cX2_labelAll 11 = .ok (.aload_n 0, 1) := by decide +kernel
theorem dX2_labelAll_12 : decode cX2_labelAll 12 = .ok (.getfield 15, 3) := by decide +kernel
theorem dX2_labelAll_15 : decode cX2_labelAll 15 = .ok (.aload_n 0, 1) := by decide +kernel
theorem dX2_labelAll_16 : decode cX2_labelAll 16 = .ok (.getfield 9, 3) := by decide +kernel
theorem dX2_labelAll_19 : decode cX2_labelAll 19 = .ok (.invokevirtual 54, 3) := by decide +kernel
theorem dX2_labelAll_22 : decode cX2_labelAll 22 = .ok (.iconst 0, 1) := by decide +kernel
theorem dX2_labelAll_23 : decode cX2_labelAll 23 = .ok (.istore_n 1, 1) := by decide +kernel
theorem dX2_labelAll_24 : decode cX2_labelAll 24 = .ok (.iload_n 1, 1) := by decide +kernel
theorem dX2_labelAll_25 : decode cX2_labelAll 25 = .ok (.aload_n 0, 1) := by decide +kernel
theorem dX2_labelAll_26 : decode cX2_labelAll 26 = .ok (.getfield 9, 3) := by decide +kernel
theorem dX2_labelAll_29 : decode cX2_labelAll 29 = .ok (.invokevirtual 58, 3) := by decide +kernel
theorem dX2_labelAll_32 : decode cX2_labelAll 32 = .ok (.if_icmp .ge 24, 3) := by decide +kernel
theorem dX2_labelAll_35 : decode cX2_labelAll 35 = .ok (.aload_n 0, 1) := by decide +kernel
theorem dX2_labelAll_36 : decode cX2_labelAll 36 = .ok (.iload_n 1, 1) := by decide +kernel
theorem dX2_labelAll_37 : decode cX2_labelAll 37 = .ok (.aload_n 0, 1) := by decide +kernel
theorem dX2_labelAll_38 : decode cX2_labelAll 38 = .ok (.getfield 15, 3) := by decide +kernel
theorem dX2_labelAll_41 : decode cX2_labelAll 41 = .ok (.iload_n 1, 1) := by decide +kernel
theorem dX2_labelAll_42 : decode cX2_labelAll 42 = .ok (.invokevirtual 64, 3) := by decide +kernel
theorem dX2_labelAll_45 : decode cX2_labelAll 45 = .ok (.iconst 0, 1) := by decide +kernel
theorem dX2_labelAll_46 : decode cX2_labelAll 46 = .ok (.iconst (-1), 1) := by decide +kernel
theorem dX2_labelAll_47 : decode cX2_labelAll 47 = .ok (.invokevirtual 68, 3) := by decide +kernel
theorem dX2_labelAll_50 : decode cX2_labelAll 50 = .ok (.iinc 1 1, 3) := by decide +kernel
theorem dX2_labelAll_53 : decode cX2_labelAll 53 = .ok (.goto (-29), 3) := by decide +kernel
theorem dX2_labelAll_56 : decode cX2_labelAll 56 = .ok (.aload_n 0, 1) := by decide +kernel
theorem dX2_labelAll_57 : decode cX2_labelAll 57 = .ok (.getfield 37, 3) := by decide +kernel
theorem dX2_labelAll_60 : decode cX2_labelAll 60 = .ok (.ireturn, 1) := by decide +kernel
set_option maxRecDepth 20000 in
theorem ggX2_extend_X2_forgetCounts : GoodIn wsX2_extend wsX2_forgetCounts := goodIn_r _ [8, 3, 9, 10, 78, 79, 80, 81, 82, 83, 84, 85, 86, 87] (by decide +kernel) (by decide +kernel)
set_option maxRecDepth 20000 in
theorem gX2_extend_X2_forgetCounts : GoodIn wsX2_extend (wsV RX2 46 RX2 yX2_forgetCounts wsX2_forgetCounts) := goodIn_app (goodIn_of _ (by decide +kernel)) ggX2_extend_X2_forgetCounts
set_option maxRecDepth 20000 in
theorem ggX2_extend_X0_size : GoodIn wsX2_extend wsX0_size := goodIn_r _ [15, 16, 88, 89, 90] (by decide +kernel) (by decide +kernel)
set_option maxRecDepth 20000 in
theorem gX2_extend_X0_size : GoodIn wsX2_extend (wsV RX2 58 RX0 yX0_size wsX0_size) := goodIn_app (goodIn_of _ (by decide +kernel)) ggX2_extend_X0_size
set_option maxRecDepth 20000 in
theorem ggX2_extend_X1_distanceTo : GoodIn wsX2_extend wsX1_distanceTo := goodIn_r _ [21, 22, 23, 24, 25, 20, 26, 27, 28, 29, 30, 31, 32, 91, 92, 93, 94, 95, 96] (by decide +kernel) (by decide +kernel)
set_option maxRecDepth 20000 in
theorem gX2_extend_X1_distanceTo : GoodIn wsX2_extend (wsV RX2 72 RX1 yX1_distanceTo wsX1_distanceTo) := goodIn_app (goodIn_of _ (by decide +kernel)) ggX2_extend_X1_distanceTo
set_option maxRecDepth 20000 in
theorem ggX2_extend_X2_search : GoodIn wsX2_extend wsX2_search := goodIn_r _ [36, 37, 38, 39, 40, 41, 42, 43, 44, 7, 45, 28, 29, 30, 46, 47, 48, 49, 3, 2, 9, 10, 1, 50, 51, 52, 53, 20, 54, 55, 56, 57, 58, 59, 60, 61, 62, 63, 27, 31, 32, 64, 65, 66, 67, 22, 68, 69, 70, 71, 72, 73, 74, 75, 14, 76, 77, 11, 12, 13, 15, 16, 78, 79, 80, 81, 82, 83, 84, 85, 86, 87, 91, 92, 93, 94, 95, 96, 88, 89, 90] (by decide +kernel) (by decide +kernel)
set_option maxRecDepth 20000 in
theorem gX2_extend_X2_search : GoodIn wsX2_extend (wsV RX2 68 RX2 yX2_search wsX2_search) := goodIn_app (goodIn_of _ (by decide +kernel)) ggX2_extend_X2_search
theorem dX2_extend_0 : decode cX2_extend 0 = .ok (.aload_n 0, 1) := by decide +kernel
theorem dX2_extend_1 : decode cX2_extend 1 = .ok (.invokevirtual 46, 3) := by decide +kernel
theorem dX2_extend_4 : decode cX2_extend 4 = .ok (.iconst 0, 1) := by decide +kernel
theorem dX2_extend_5 : decode cX2_extend 5 = .ok (.istore_n 3, 1) := by decide +kernel
theorem dX2_extend_6 : decode cX2_extend 6 = .ok (.iload_n 3, 1) := by decide +kernel
theorem dX2_extend_7 : decode cX2_extend 7 = .ok (.aload_n 0, 1) := by decide +kernel
theorem dX2_extend_8 : decode cX2_extend 8 = .ok (.getfield 9, 3) := by decide +kernel
theorem dX2_extend_11 : decode cX2_extend 11 = .ok (.invokevirtual 58, 3) := by decide +kernel
theorem dX2_extend_14 : decode cX2_extend 14 = .ok (.if_icmp .ge 65, 3) := by decide +kernel
theorem dX2_extend_17 : decode cX2_extend 17 = .ok (.aload_n 0, 1) := by decide +kernel
theorem dX2_extend_18 : decode cX2_extend 18 = .ok (.getfield 15, 3) := by decide +kernel
theorem dX2_extend_21 : decode cX2_extend 21 = .ok (.iload_n 3, 1) := by decide +kernel
theorem dX2_extend_22 : decode cX2_extend 22 = .ok (.iload_n 1, 1) := by decide +kernel
theorem dX2_extend_23 : decode cX2_extend 23 = .ok (.invokevirtual 72, 3) := by decide +kernel
theorem dX2_extend_26 : decode cX2_extend 26 = .ok (.istore 4, 2) := by decide +kernel
theorem dX2_extend_28 : decode cX2_extend 28 = .ok (.aload_n 0, 1) := by decide +kernel
theorem dX2_extend_29 : decode cX2_extend 29 = .ok (.getfield 15, 3) := by decide +kernel
theorem dX2_extend_32 : decode cX2_extend 32 = .ok (.iload_n 3, 1) := by decide +kernel
theorem dX2_extend_33 : decode cX2_extend 33 = .ok (.iload_n 2, 1) := by decide +kernel
theorem dX2_extend_34 : decode cX2_extend 34 = .ok (.invokevirtual 72, 3) := by decide +kernel
theorem dX2_extend_37 : decode cX2_extend 37 = .ok (.istore 5, 2) := by decide +kernel
theorem dX2_extend_39 : decode cX2_extend 39 = .ok (.iload 4, 2) := by decide +kernel
theorem dX2_extend_41 : decode cX2_extend 41 = .ok (.iconst (-1), 1) := by decide +kernel
theorem dX2_extend_42 : decode cX2_extend 42 = .ok (.if_icmp .eq 14, 3) := by decide +kernel
theorem dX2_extend_45 : decode cX2_extend 45 = .ok (.aload_n 0, 1) := by decide +kernel
theorem dX2_extend_46 : decode cX2_extend 46 = .ok (.iload_n 3, 1) := by decide +kernel
theorem dX2_extend_47 : decode cX2_extend 47 = .ok (.iload_n 2, 1) := by decide +kernel
theorem dX2_extend_48 : decode cX2_extend 48 = .ok (.iload 4, 2) := by decide +kernel
theorem dX2_extend_50 : decode cX2_extend 50 = .ok (.iconst 1, 1) := by decide +kernel
theorem dX2_extend_51 : decode cX2_extend 51 = .ok (.iadd, 1) := by decide +kernel
theorem dX2_extend_52 : decode cX2_extend 52 = .ok (.iload_n 1, 1) := by decide +kernel
theorem dX2_extend_53 : decode cX2_extend 53 = .ok (.invokevirtual 68, 3) := by decide +kernel
theorem dX2_extend_56 : decode cX2_extend 56 = .ok (.iload 5, 2) := by decide +kernel
theorem dX2_extend_58 : decode cX2_extend 58 = .ok (.iconst (-1), 1) := by decide +kernel
theorem dX2_extend_59 : decode cX2_extend 59 = .ok (.if_icmp .eq 14, 3) := by decide +kernel
theorem dX2_extend_62 : decode cX2_extend 62 = .ok (.aload_n 0, 1) := by decide +kernel
theorem dX2_extend_63 : decode cX2_extend 63 = .ok (.iload_n 3, 1) := by decide +kernel
theorem dX2_extend_64 : decode cX2_extend 64 = .ok (.iload_n 1, 1) := by decide +kernel
theorem dX2_extend_65 : decode cX2_extend 65 = .ok (.iload 5, 2) := by decide +kernel
theorem dX2_extend_67 : decode cX2_extend 67 = .ok (.iconst 1, 1) := by decide +kernel
theorem dX2_extend_68 : decode cX2_extend 68 = .ok (.iadd, 1) := by decide +kernel
theorem dX2_extend_69 : decode cX2_extend 69 = .ok (.iload_n 2, 1) := by decide +kernel
theorem dX2_extend_70 : decode cX2_extend 70 = .ok (.invokevirtual 68, 3) := by decide +kernel
theorem dX2_extend_73 : decode cX2_extend 73 = .ok (.iinc 3 1, 3) := by decide +kernel
theorem dX2_extend_76 : decode cX2_extend 76 = .ok (.goto (-70), 3) := by decide +kernel
theorem dX2_extend_79 : decode cX2_extend 79 = .ok (.aload_n 0, 1) := by decide +kernel
theorem dX2_extend_80 : decode cX2_extend 80 = .ok (.getfield 37, 3) := by decide +kernel
theorem dX2_extend_83 : decode cX2_extend 83 = .ok (.ireturn, 1) := by decide +kernel
set_option maxRecDepth 20000 in
theorem ggX2_search_X2_enqueue : GoodIn wsX2_search wsX2_enqueue := goodIn_r _ [10, 1, 2, 3, 4, 5, 11, 12, 13, 62, 63, 64, 65, 66, 67, 68, 69, 70, 71] (by decide +kernel) (by decide +kernel)
set_option maxRecDepth 20000 in
theorem gX2_search_X2_enqueue : GoodIn wsX2_search (wsV RX2 76 RX2 yX2_enqueue wsX2_enqueue) := goodIn_app (goodIn_of _ (by decide +kernel)) ggX2_search_X2_enqueue
set_option maxRecDepth 20000 in
theorem ggX2_search_X2_visit : GoodIn wsX2_search wsX2_visit := goodIn_r _ [17, 18, 19, 20, 21, 22, 2, 23, 24, 25, 26, 27, 28, 29, 30, 31, 32, 33, 11, 12, 13, 34, 35, 36, 37, 38, 39, 40, 41, 42, 43, 44, 45, 46, 47, 48, 49, 50, 51, 52, 53, 54, 55, 56, 57, 58, 59, 60, 61, 6, 7, 8, 9, 10, 1, 3, 4, 5, 62, 63, 64, 65, 66, 67, 68, 69, 70, 71, 72, 73, 74, 75, 76, 77, 78, 79, 80] (by decide +kernel) (by decide +kernel)
set_option maxRecDepth 20000 in
theorem gX2_search_X2_visit : GoodIn wsX2_search (wsV RX2 80 RX2 yX2_visit wsX2_visit) := goodIn_app (goodIn_of _ (by decide +kernel)) ggX2_search_X2_visit
theorem dX2_search_0 : decode cX2_search 0 = .ok (.aload_n 0, 1) := by decide +kernel
theorem dX2_search_1 : decode cX2_search 1 = .ok (.iconst 0, 1) := by decide +kernel
theorem dX2_search_2 : decode cX2_search 2 = .ok (.putfield 29, 3) := by decide +kernel
theorem dX2_search_5 : decode cX2_search 5 = .ok (.aload_n 0, 1) := by decide +kernel
theorem dX2_search_6 : decode cX2_search 6 = .ok (.lconst 0, 1) := by decide +kernel
theorem dX2_search_7 : decode cX2_search 7 = .ok (.putfield 33, 3) := by decide +kernel
theorem dX2_search_10 : decode cX2_search 10 = .ok (.aload_n 0, 1) := by decide +kernel
theorem dX2_search_11 : decode cX2_search 11 = .ok (.iload_n 2, 1) := by decide +kernel
theorem dX2_search_12 : decode cX2_search 12 = .ok (.iload_n 3, 1) := by decide +kernel
theorem dX2_search_13 : decode cX2_search 13 = .ok (.iload 4, 2) := by decide +kernel
theorem dX2_search_15 : decode cX2_search 15 = .ok (.invokevirtual 76, 3) := by decide +kernel
theorem dX2_search_18 : decode cX2_search 18 = .ok (.iconst 0, 1) := by decide +kernel
theorem dX2_search_19 : decode cX2_search 19 = .ok (.istore 5, 2) := by decide +kernel
theorem dX2_search_21 : decode cX2_search 21 = .ok (.iload 5, 2) := by decide +kernel
theorem dX2_search_23 : decode cX2_search 23 = .ok (.aload_n 0, 1) := by decide +kernel
theorem dX2_search_24 : decode cX2_search 24 = .ok (.getfield 29, 3) := by decide +kernel
theorem dX2_search_27 : decode cX2_search 27 = .ok (.if_icmp .ge 42, 3) := by decide +kernel
theorem dX2_search_30 : decode cX2_search 30 = .ok (.iload 5, 2) := by decide +kernel
theorem dX2_search_32 : decode cX2_search 32 = .ok (.bipush 48, 2) := by decide +kernel
theorem dX2_search_34 : decode cX2_search 34 = .ok (.if_icmp .ge 35, 3) := by decide +kernel
theorem dX2_search_37 : decode cX2_search 37 = .ok (.aload_n 0, 1) := by decide +kernel
theorem dX2_search_38 : decode cX2_search 38 = .ok (.iload_n 1, 1) := by decide +kernel
theorem dX2_search_39 : decode cX2_search 39 = .ok (.aload_n 0, 1) := by decide +kernel
theorem dX2_search_40 : decode cX2_search 40 = .ok (.getfield 19, 3) := by decide +kernel
theorem dX2_search_43 : decode cX2_search 43 = .ok (.iload 5, 2) := by decide +kernel
theorem dX2_search_45 : decode cX2_search 45 = .ok (.iaload, 1) := by decide +kernel
theorem dX2_search_46 : decode cX2_search 46 = .ok (.aload_n 0, 1) := by decide +kernel
theorem dX2_search_47 : decode cX2_search 47 = .ok (.getfield 23, 3) := by decide +kernel
theorem dX2_search_50 : decode cX2_search 50 = .ok (.iload 5, 2) := by decide +kernel
theorem dX2_search_52 : decode cX2_search 52 = .ok (.iaload, 1) := by decide +kernel
theorem dX2_search_53 : decode cX2_search 53 = .ok (.aload_n 0, 1) := by decide +kernel
theorem dX2_search_54 : decode cX2_search 54 = .ok (.getfield 26, 3) := by decide +kernel
theorem dX2_search_57 : decode cX2_search 57 = .ok (.iload 5, 2) := by decide +kernel
theorem dX2_search_59 : decode cX2_search 59 = .ok (.iaload, 1) := by decide +kernel
theorem dX2_search_60 : decode cX2_search 60 = .ok (.invokevirtual 80, 3) := by decide +kernel
theorem dX2_search_63 : decode cX2_search 63 = .ok (.iinc 5 1, 3) := by decide +kernel
theorem dX2_search_66 : decode cX2_search 66 = .ok (.goto (-45), 3) := by decide +kernel
theorem dX2_search_69 : decode cX2_search 69 = .ok (.return_, 1) := by decide +kernel
set_option maxRecDepth 20000 in
theorem ggX2_enqueue_X3_isRow : GoodIn wsX2_enqueue wsX3_isRow := goodIn_r _ [8] (by decide +kernel) (by decide +kernel)
set_option maxRecDepth 20000 in
theorem gX2_enqueue_X3_isRow_n83 : GoodIn wsX2_enqueue (wsX3_isRow) := ggX2_enqueue_X3_isRow
theorem dX2_enqueue_0 : decode cX2_enqueue 0 = .ok (.iload_n 1, 1) := by decide +kernel
theorem dX2_enqueue_1 : decode cX2_enqueue 1 = .ok (.invokestatic 83, 3) := by decide +kernel
theorem dX2_enqueue_4 : decode cX2_enqueue 4 = .ok (.ifCond .eq 65, 3) := by decide +kernel
theorem dX2_enqueue_7 : decode cX2_enqueue 7 = .ok (.aload_n 0, 1) := by decide +kernel
theorem dX2_enqueue_8 : decode cX2_enqueue 8 = .ok (.getfield 29, 3) := by decide +kernel
theorem dX2_enqueue_11 : decode cX2_enqueue 11 = .ok (.invokestatic 83, 3) := by decide +kernel
theorem dX2_enqueue_14 : decode cX2_enqueue 14 = .ok (.ifCond .eq 55, 3) := by decide +kernel
theorem dX2_enqueue_17 : decode cX2_enqueue 17 = .ok (.aload_n 0, 1) := by decide +kernel
theorem dX2_enqueue_18 : decode cX2_enqueue 18 = .ok (.dup, 1) := by decide +kernel
theorem dX2_enqueue_19 : decode cX2_enqueue 19 = .ok (.getfield 33, 3) := by decide +kernel
theorem dX2_enqueue_22 : decode cX2_enqueue 22 = .ok (.lconst 1, 1) := by decide +kernel
theorem dX2_enqueue_23 : decode cX2_enqueue 23 = .ok (.iload_n 1, 1) := by decide +kernel
theorem dX2_enqueue_24 : decode cX2_enqueue 24 = .ok (.lshl, 1) := by decide +kernel
theorem dX2_enqueue_25 : decode cX2_enqueue 25 = .ok (.lor, 1) := by decide +kernel
theorem dX2_enqueue_26 : decode cX2_enqueue 26 = .ok (.putfield 33, 3) := by decide +kernel
theorem dX2_enqueue_29 : decode cX2_enqueue 29 = .ok (.aload_n 0, 1) := by decide +kernel
theorem dX2_enqueue_30 : decode cX2_enqueue 30 = .ok (.getfield 19, 3) := by decide +kernel
theorem dX2_enqueue_33 : decode cX2_enqueue 33 = .ok (.aload_n 0, 1) := by decide +kernel
theorem dX2_enqueue_34 : decode cX2_enqueue 34 = .ok (.getfield 29, 3) := by decide +kernel
theorem dX2_enqueue_37 : decode cX2_enqueue 37 = .ok (.iload_n 1, 1) := by decide +kernel
theorem dX2_enqueue_38 : decode cX2_enqueue 38 = .ok (.iastore, 1) := by decide +kernel
theorem dX2_enqueue_39 : decode cX2_enqueue 39 = .ok (.aload_n 0, 1) := by decide +kernel
theorem dX2_enqueue_40 : decode cX2_enqueue 40 = .ok (.getfield 23, 3) := by decide +kernel
theorem dX2_enqueue_43 : decode cX2_enqueue 43 = .ok (.aload_n 0, 1) := by decide +kernel
theorem dX2_enqueue_44 : decode cX2_enqueue 44 = .ok (.getfield 29, 3) := by decide +kernel
theorem dX2_enqueue_47 : decode cX2_enqueue 47 = .ok (.iload_n 2, 1) := by decide +kernel
theorem dX2_enqueue_48 : decode cX2_enqueue 48 = .ok (.iastore, 1) := by decide +kernel
theorem dX2_enqueue_49 : decode cX2_enqueue 49 = .ok (.aload_n 0, 1) := by decide +kernel
theorem dX2_enqueue_50 : decode cX2_enqueue 50 = .ok (.getfield 26, 3) := by decide +kernel
theorem dX2_enqueue_53 : decode cX2_enqueue 53 = .ok (.aload_n 0, 1) := by decide +kernel
theorem dX2_enqueue_54 : decode cX2_enqueue 54 = .ok (.getfield 29, 3) := by decide +kernel
theorem dX2_enqueue_57 : decode cX2_enqueue 57 = .ok (.iload_n 3, 1) := by decide +kernel
theorem dX2_enqueue_58 : decode cX2_enqueue 58 = .ok (.iastore, 1) := by decide +kernel
theorem dX2_enqueue_59 : decode cX2_enqueue 59 = .ok (.aload_n 0, 1) := by decide +kernel
theorem dX2_enqueue_60 : decode cX2_enqueue 60 = .ok (.dup, 1) := by decide +kernel
theorem dX2_enqueue_61 : decode cX2_enqueue 61 = .ok (.getfield 29, 3) := by decide +kernel
theorem dX2_enqueue_64 : decode cX2_enqueue 64 = .ok (.iconst 1, 1) := by decide +kernel
theorem dX2_enqueue_65 : decode cX2_enqueue 65 = .ok (.iadd, 1) := by decide +kernel
theorem dX2_enqueue_66 : decode cX2_enqueue 66 = .ok (.putfield 29, 3) := by decide +kernel
theorem dX2_enqueue_69 : decode cX2_enqueue 69 = .ok (.return_, 1) := by decide +kernel
set_option maxRecDepth 20000 in
theorem ggX2_visit_X1_reaches : GoodIn wsX2_visit wsX1_reaches := goodIn_r _ [12, 13, 14, 15, 11, 16, 17, 18, 19, 20, 21, 22, 23, 24, 25, 26, 27, 28, 29, 30, 31, 32, 68, 69, 70, 71, 72, 73] (by decide +kernel) (by decide +kernel)
set_option maxRecDepth 20000 in
theorem gX2_visit_X1_reaches : GoodIn wsX2_visit (wsV RX2 87 RX1 yX1_reaches wsX1_reaches) := goodIn_app (goodIn_of _ (by decide +kernel)) ggX2_visit_X1_reaches
set_option maxRecDepth 20000 in
theorem ggX2_visit_X1_put : GoodIn wsX2_visit wsX1_put := goodIn_r _ [36, 25, 32, 37, 18, 19, 20, 68, 69, 70, 71, 72, 73] (by decide +kernel) (by decide +kernel)
set_option maxRecDepth 20000 in
theorem gX2_visit_X1_put : GoodIn wsX2_visit (wsV RX2 91 RX1 yX1_put wsX1_put) := goodIn_app (goodIn_of _ (by decide +kernel)) ggX2_visit_X1_put
set_option maxRecDepth 20000 in
theorem ggX2_visit_X0_adjacent : GoodIn wsX2_visit wsX0_adjacent := goodIn_r _ [42, 43, 18, 19, 20, 74, 75, 76] (by decide +kernel) (by decide +kernel)
set_option maxRecDepth 20000 in
theorem gX2_visit_X0_adjacent : GoodIn wsX2_visit (wsV RX2 94 RX0 yX0_adjacent wsX0_adjacent) := goodIn_app (goodIn_of _ (by decide +kernel)) ggX2_visit_X0_adjacent
set_option maxRecDepth 20000 in
theorem ggX2_visit_X0_size : GoodIn wsX2_visit wsX0_size := goodIn_r _ [47, 48, 74, 75, 76] (by decide +kernel) (by decide +kernel)
set_option maxRecDepth 20000 in
theorem gX2_visit_X0_size : GoodIn wsX2_visit (wsV RX2 58 RX0 yX0_size wsX0_size) := goodIn_app (goodIn_of _ (by decide +kernel)) ggX2_visit_X0_size
set_option maxRecDepth 20000 in
theorem ggX2_visit_X3_hasBit : GoodIn wsX2_visit wsX3_hasBit := goodIn_r _ [27] (by decide +kernel) (by decide +kernel)
set_option maxRecDepth 20000 in
theorem gX2_visit_X3_hasBit_n100 : GoodIn wsX2_visit (wsX3_hasBit) := ggX2_visit_X3_hasBit
set_option maxRecDepth 20000 in
theorem ggX2_visit_X2_enqueue : GoodIn wsX2_visit wsX2_enqueue := goodIn_r _ [53, 54, 6, 55, 56, 57, 18, 19, 20, 58, 59, 60, 61, 62, 63, 64, 65, 66, 67] (by decide +kernel) (by decide +kernel)
set_option maxRecDepth 20000 in
theorem gX2_visit_X2_enqueue : GoodIn wsX2_visit (wsV RX2 76 RX2 yX2_enqueue wsX2_enqueue) := goodIn_app (goodIn_of _ (by decide +kernel)) ggX2_visit_X2_enqueue
theorem dX2_visit_0 : decode cX2_visit 0 = .ok (.aload_n 0, 1) := by decide +kernel
theorem dX2_visit_1 : decode cX2_visit 1 = .ok (.dup, 1) := by decide +kernel
theorem dX2_visit_2 : decode cX2_visit 2 = .ok (.getfield 37, 3) := by decide +kernel
theorem dX2_visit_5 : decode cX2_visit 5 = .ok (.iconst 1, 1) := by decide +kernel
theorem dX2_visit_6 : decode cX2_visit 6 = .ok (.iadd, 1) := by decide +kernel
theorem dX2_visit_7 : decode cX2_visit 7 = .ok (.putfield 37, 3) := by decide +kernel
theorem dX2_visit_10 : decode cX2_visit 10 = .ok (.aload_n 0, 1) := by decide +kernel
theorem dX2_visit_11 : decode cX2_visit 11 = .ok (.getfield 15, 3) := by decide +kernel
theorem dX2_visit_14 : decode cX2_visit 14 = .ok (.iload_n 1, 1) := by decide +kernel
theorem dX2_visit_15 : decode cX2_visit 15 = .ok (.iload_n 2, 1) := by decide +kernel
theorem dX2_visit_16 : decode cX2_visit 16 = .ok (.iload_n 3, 1) := by decide +kernel
theorem dX2_visit_17 : decode cX2_visit 17 = .ok (.invokevirtual 87, 3) := by decide +kernel
theorem dX2_visit_20 : decode cX2_visit 20 = .ok (.ifCond .eq 14, 3) := by decide +kernel
theorem dX2_visit_23 : decode cX2_visit 23 = .ok (.aload_n 0, 1) := by decide +kernel
theorem dX2_visit_24 : decode cX2_visit 24 = .ok (.dup, 1) := by decide +kernel
theorem dX2_visit_25 : decode cX2_visit 25 = .ok (.getfield 40, 3) := by decide +kernel
theorem dX2_visit_28 : decode cX2_visit 28 = .ok (.iconst 1, 1) := by decide +kernel
theorem dX2_visit_29 : decode cX2_visit 29 = .ok (.iadd, 1) := by decide +kernel
theorem dX2_visit_30 : decode cX2_visit 30 = .ok (.putfield 40, 3) := by decide +kernel
theorem dX2_visit_33 : decode cX2_visit 33 = .ok (.return_, 1) := by decide +kernel
theorem dX2_visit_34 : decode cX2_visit 34 = .ok (.aload_n 0, 1) := by decide +kernel
theorem dX2_visit_35 : decode cX2_visit 35 = .ok (.getfield 15, 3) := by decide +kernel
theorem dX2_visit_38 : decode cX2_visit 38 = .ok (.iload_n 1, 1) := by decide +kernel
theorem dX2_visit_39 : decode cX2_visit 39 = .ok (.iload_n 2, 1) := by decide +kernel
theorem dX2_visit_40 : decode cX2_visit 40 = .ok (.iload_n 3, 1) := by decide +kernel
theorem dX2_visit_41 : decode cX2_visit 41 = .ok (.iload 4, 2) := by decide +kernel
theorem dX2_visit_43 : decode cX2_visit 43 = .ok (.invokevirtual 91, 3) := by decide +kernel
theorem dX2_visit_46 : decode cX2_visit 46 = .ok (.aload_n 0, 1) := by decide +kernel
theorem dX2_visit_47 : decode cX2_visit 47 = .ok (.dup, 1) := by decide +kernel
theorem dX2_visit_48 : decode cX2_visit 48 = .ok (.getfield 43, 3) := by decide +kernel
theorem dX2_visit_51 : decode cX2_visit 51 = .ok (.iconst 1, 1) := by decide +kernel
theorem dX2_visit_52 : decode cX2_visit 52 = .ok (.iadd, 1) := by decide +kernel
theorem dX2_visit_53 : decode cX2_visit 53 = .ok (.putfield 43, 3) := by decide +kernel
theorem dX2_visit_56 : decode cX2_visit 56 = .ok (.aload_n 0, 1) := by decide +kernel
theorem dX2_visit_57 : decode cX2_visit 57 = .ok (.getfield 9, 3) := by decide +kernel
theorem dX2_visit_60 : decode cX2_visit 60 = .ok (.iload_n 2, 1) := by decide +kernel
theorem dX2_visit_61 : decode cX2_visit 61 = .ok (.invokevirtual 94, 3) := by decide +kernel
theorem dX2_visit_64 : decode cX2_visit 64 = .ok (.aload_n 0, 1) := by decide +kernel
theorem dX2_visit_65 : decode cX2_visit 65 = .ok (.getfield 33, 3) := by decide +kernel
theorem dX2_visit_68 : decode cX2_visit 68 = .ok (.ldc2_w 98, 3) := by decide +kernel
theorem dX2_visit_71 : decode cX2_visit 71 = .ok (.lxor, 1) := by decide +kernel
theorem dX2_visit_72 : decode cX2_visit 72 = .ok (.land, 1) := by decide +kernel
theorem dX2_visit_73 : decode cX2_visit 73 = .ok (.lstore 5, 2) := by decide +kernel
theorem dX2_visit_75 : decode cX2_visit 75 = .ok (.iconst 0, 1) := by decide +kernel
theorem dX2_visit_76 : decode cX2_visit 76 = .ok (.istore 7, 2) := by decide +kernel
theorem dX2_visit_78 : decode cX2_visit 78 = .ok (.iload 7, 2) := by decide +kernel
theorem dX2_visit_80 : decode cX2_visit 80 = .ok (.aload_n 0, 1) := by decide +kernel
theorem dX2_visit_81 : decode cX2_visit 81 = .ok (.getfield 9, 3) := by decide +kernel
theorem dX2_visit_84 : decode cX2_visit 84 = .ok (.invokevirtual 58, 3) := by decide +kernel
theorem dX2_visit_87 : decode cX2_visit 87 = .ok (.if_icmp .ge 29, 3) := by decide +kernel
theorem dX2_visit_90 : decode cX2_visit 90 = .ok (.lload 5, 2) := by decide +kernel
theorem dX2_visit_92 : decode cX2_visit 92 = .ok (.iload 7, 2) := by decide +kernel
theorem dX2_visit_94 : decode cX2_visit 94 = .ok (.invokestatic 100, 3) := by decide +kernel
theorem dX2_visit_97 : decode cX2_visit 97 = .ok (.ifCond .eq 13, 3) := by decide +kernel
theorem dX2_visit_100 : decode cX2_visit 100 = .ok (.aload_n 0, 1) := by decide +kernel
theorem dX2_visit_101 : decode cX2_visit 101 = .ok (.iload 7, 2) := by decide +kernel
theorem dX2_visit_103 : decode cX2_visit 103 = .ok (.iload_n 3, 1) := by decide +kernel
theorem dX2_visit_104 : decode cX2_visit 104 = .ok (.iconst 1, 1) := by decide +kernel
theorem dX2_visit_105 : decode cX2_visit 105 = .ok (.iadd, 1) := by decide +kernel
theorem dX2_visit_106 : decode cX2_visit 106 = .ok (.iload_n 2, 1) := by decide +kernel
theorem dX2_visit_107 : decode cX2_visit 107 = .ok (.invokevirtual 76, 3) := by decide +kernel
theorem dX2_visit_110 : decode cX2_visit 110 = .ok (.iinc 7 1, 3) := by decide +kernel
theorem dX2_visit_113 : decode cX2_visit 113 = .ok (.goto (-35), 3) := by decide +kernel
theorem dX2_visit_116 : decode cX2_visit 116 = .ok (.return_, 1) := by decide +kernel
