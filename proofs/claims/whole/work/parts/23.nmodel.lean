theorem dX4_init_0 : decode cX4_init 0 = .ok (.aload_n 0, 1) := by decide +kernel
theorem dX4_init_1 : decode cX4_init 1 = .ok (.invokespecial 1, 3) := by decide +kernel
theorem dX4_init_4 : decode cX4_init 4 = .ok (.aload_n 0, 1) := by decide +kernel
theorem dX4_init_5 : decode cX4_init 5 = .ok (.bipush 48, 2) := by decide +kernel
theorem dX4_init_7 : decode cX4_init 7 = .ok (.newarray .long, 2) := by decide +kernel
theorem dX4_init_9 : decode cX4_init 9 = .ok (.putfield 7, 3) := by decide +kernel
theorem dX4_init_12 : decode cX4_init 12 = .ok (.aload_n 0, 1) := by decide +kernel
theorem dX4_init_13 : decode cX4_init 13 = .ok (.sipush 4608, 3) := by decide +kernel
theorem dX4_init_16 : decode cX4_init 16 = .ok (.newarray .int, 2) := by decide +kernel
theorem dX4_init_18 : decode cX4_init 18 = .ok (.putfield 13, 3) := by decide +kernel
theorem dX4_init_21 : decode cX4_init 21 = .ok (.aload_n 0, 1) := by decide +kernel
theorem dX4_init_22 : decode cX4_init 22 = .ok (.sipush 4608, 3) := by decide +kernel
theorem dX4_init_25 : decode cX4_init 25 = .ok (.newarray .int, 2) := by decide +kernel
theorem dX4_init_27 : decode cX4_init 27 = .ok (.putfield 17, 3) := by decide +kernel
theorem dX4_init_30 : decode cX4_init 30 = .ok (.aload_n 0, 1) := by decide +kernel
theorem dX4_init_31 : decode cX4_init 31 = .ok (.bipush 96, 2) := by decide +kernel
theorem dX4_init_33 : decode cX4_init 33 = .ok (.newarray .int, 2) := by decide +kernel
theorem dX4_init_35 : decode cX4_init 35 = .ok (.putfield 20, 3) := by decide +kernel
theorem dX4_init_38 : decode cX4_init 38 = .ok (.aload_n 0, 1) := by decide +kernel
theorem dX4_init_39 : decode cX4_init 39 = .ok (.bipush 96, 2) := by decide +kernel
theorem dX4_init_41 : decode cX4_init 41 = .ok (.newarray .int, 2) := by decide +kernel
theorem dX4_init_43 : decode cX4_init 43 = .ok (.putfield 23, 3) := by decide +kernel
theorem dX4_init_46 : decode cX4_init 46 = .ok (.aload_n 0, 1) := by decide +kernel
theorem dX4_init_47 : decode cX4_init 47 = .ok (.bipush 48, 2) := by decide +kernel
theorem dX4_init_49 : decode cX4_init 49 = .ok (.newarray .int, 2) := by decide +kernel
theorem dX4_init_51 : decode cX4_init 51 = .ok (.putfield 26, 3) := by decide +kernel
theorem dX4_init_54 : decode cX4_init 54 = .ok (.aload_n 0, 1) := by decide +kernel
theorem dX4_init_55 : decode cX4_init 55 = .ok (.bipush 48, 2) := by decide +kernel
theorem dX4_init_57 : decode cX4_init 57 = .ok (.newarray .int, 2) := by decide +kernel
theorem dX4_init_59 : decode cX4_init 59 = .ok (.putfield 29, 3) := by decide +kernel
theorem dX4_init_62 : decode cX4_init 62 = .ok (.aload_n 0, 1) := by decide +kernel
theorem dX4_init_63 : decode cX4_init 63 = .ok (.bipush 48, 2) := by decide +kernel
theorem dX4_init_65 : decode cX4_init 65 = .ok (.newarray .int, 2) := by decide +kernel
theorem dX4_init_67 : decode cX4_init 67 = .ok (.putfield 32, 3) := by decide +kernel
theorem dX4_init_70 : decode cX4_init 70 = .ok (.return_, 1) := by decide +kernel
theorem dX4_thrown_0 : decode cX4_thrown 0 = .ok (.aload_n 0, 1) := by decide +kernel
theorem dX4_thrown_1 : decode cX4_thrown 1 = .ok (.getfield 35, 3) := by decide +kernel
theorem dX4_thrown_4 : decode cX4_thrown 4 = .ok (.ireturn, 1) := by decide +kernel
theorem dX4_goes_0 : decode cX4_goes 0 = .ok (.aload_n 0, 1) := by decide +kernel
theorem dX4_goes_1 : decode cX4_goes 1 = .ok (.iload_n 1, 1) := by decide +kernel
theorem dX4_goes_2 : decode cX4_goes 2 = .ok (.putfield 35, 3) := by decide +kernel
theorem dX4_goes_5 : decode cX4_goes 5 = .ok (.iload_n 1, 1) := by decide +kernel
theorem dX4_goes_6 : decode cX4_goes 6 = .ok (.ifCond .ne 7, 3) := by decide +kernel
theorem dX4_goes_9 : decode cX4_goes 9 = .ok (.iconst 1, 1) := by decide +kernel
theorem dX4_goes_10 : decode cX4_goes 10 = .ok (.goto 4, 3) := by decide +kernel
theorem dX4_goes_13 : decode cX4_goes 13 = .ok (.iconst 0, 1) := by decide +kernel
theorem dX4_goes_14 : decode cX4_goes 14 = .ok (.ireturn, 1) := by decide +kernel
theorem dX4_isVertex_0 : decode cX4_isVertex 0 = .ok (.iload_n 1, 1) := by decide +kernel
theorem dX4_isVertex_1 : decode cX4_isVertex 1 = .ok (.ifCond .lt 15, 3) := by decide +kernel
theorem dX4_isVertex_4 : decode cX4_isVertex 4 = .ok (.iload_n 1, 1) := by decide +kernel
theorem dX4_isVertex_5 : decode cX4_isVertex 5 = .ok (.aload_n 0, 1) := by decide +kernel
theorem dX4_isVertex_6 : decode cX4_isVertex 6 = .ok (.getfield 39, 3) := by decide +kernel
theorem dX4_isVertex_9 : decode cX4_isVertex 9 = .ok (.if_icmp .ge 7, 3) := by decide +kernel
theorem dX4_isVertex_12 : decode cX4_isVertex 12 = .ok (.iconst 1, 1) := by decide +kernel
theorem dX4_isVertex_13 : decode cX4_isVertex 13 = .ok (.goto 4, 3) := by decide +kernel
theorem dX4_isVertex_16 : decode cX4_isVertex 16 = .ok (.iconst 0, 1) := by decide +kernel
theorem dX4_isVertex_17 : decode cX4_isVertex 17 = .ok (.ireturn, 1) := by decide +kernel
theorem dX4_at_0 : decode cX4_at 0 = .ok (.sipush 2304, 3) := by decide +kernel
theorem dX4_at_3 : decode cX4_at 3 = .ok (.iload_n 0, 1) := by decide +kernel
theorem dX4_at_4 : decode cX4_at 4 = .ok (.imul, 1) := by decide +kernel
theorem dX4_at_5 : decode cX4_at 5 = .ok (.bipush 48, 2) := by decide +kernel
theorem dX4_at_7 : decode cX4_at 7 = .ok (.iload_n 1, 1) := by decide +kernel
theorem dX4_at_8 : decode cX4_at 8 = .ok (.imul, 1) := by decide +kernel
theorem dX4_at_9 : decode cX4_at 9 = .ok (.iadd, 1) := by decide +kernel
theorem dX4_at_10 : decode cX4_at 10 = .ok (.iload_n 2, 1) := by decide +kernel
theorem dX4_at_11 : decode cX4_at 11 = .ok (.iadd, 1) := by decide +kernel
theorem dX4_at_12 : decode cX4_at 12 = .ok (.ireturn, 1) := by decide +kernel
theorem dX4_isEdge_0 : decode cX4_isEdge 0 = .ok (.aload_n 0, 1) := by decide +kernel
theorem dX4_isEdge_1 : decode cX4_isEdge 1 = .ok (.getfield 7, 3) := by decide +kernel
theorem dX4_isEdge_4 : decode cX4_isEdge 4 = .ok (.iload_n 1, 1) := by decide +kernel
theorem dX4_isEdge_5 : decode cX4_isEdge 5 = .ok (.laload, 1) := by decide +kernel
theorem dX4_isEdge_6 : decode cX4_isEdge 6 = .ok (.iload_n 2, 1) := by decide +kernel
theorem dX4_isEdge_7 : decode cX4_isEdge 7 = .ok (.lshr, 1) := by decide +kernel
theorem dX4_isEdge_8 : decode cX4_isEdge 8 = .ok (.lconst 1, 1) := by decide +kernel
theorem dX4_isEdge_9 : decode cX4_isEdge 9 = .ok (.land, 1) := by decide +kernel
theorem dX4_isEdge_10 : decode cX4_isEdge 10 = .ok (.lconst 1, 1) := by decide +kernel
theorem dX4_isEdge_11 : decode cX4_isEdge 11 = .ok (.lcmp, 1) := by decide +kernel
theorem dX4_isEdge_12 : decode cX4_isEdge 12 = .ok (.ifCond .ne 7, 3) := by decide +kernel
theorem dX4_isEdge_15 : decode cX4_isEdge 15 = .ok (.iconst 1, 1) := by decide +kernel
theorem dX4_isEdge_16 : decode cX4_isEdge 16 = .ok (.goto 4, 3) := by decide +kernel
theorem dX4_isEdge_19 : decode cX4_isEdge 19 = .ok (.iconst 0, 1) := by decide +kernel
theorem dX4_isEdge_20 : decode cX4_isEdge 20 = .ok (.ireturn, 1) := by decide +kernel
set_option maxRecDepth 20000 in
theorem ggX4_estimate_X4_at : GoodIn wsX4_estimate wsX4_at := goodIn_r _ [5] (by decide +kernel) (by decide +kernel)
set_option maxRecDepth 20000 in
theorem gX4_estimate_X4_at : GoodIn wsX4_estimate (va_wsS RX4 42 yX4_at wsX4_at) := goodIn_app (goodIn_of _ (by decide +kernel)) ggX4_estimate_X4_at
theorem dX4_estimate_0 : decode cX4_estimate 0 = .ok (.iconst (-1), 1) := by decide +kernel
theorem dX4_estimate_1 : decode cX4_estimate 1 = .ok (.istore 5, 2) := by decide +kernel
theorem dX4_estimate_3 : decode cX4_estimate 3 = .ok (.iconst 0, 1) := by decide +kernel
theorem dX4_estimate_4 : decode cX4_estimate 4 = .ok (.istore 6, 2) := by decide +kernel
theorem dX4_estimate_6 : decode cX4_estimate 6 = .ok (.iload 6, 2) := by decide +kernel
theorem dX4_estimate_8 : decode cX4_estimate 8 = .ok (.iload 4, 2) := by decide +kernel
theorem dX4_estimate_10 : decode cX4_estimate 10 = .ok (.if_icmp .gt 89, 3) := by decide +kernel
theorem dX4_estimate_13 : decode cX4_estimate 13 = .ok (.aload_n 0, 1) := by decide +kernel
theorem dX4_estimate_14 : decode cX4_estimate 14 = .ok (.getfield 13, 3) := by decide +kernel
theorem dX4_estimate_17 : decode cX4_estimate 17 = .ok (.iload_n 1, 1) := by decide +kernel
theorem dX4_estimate_18 : decode cX4_estimate 18 = .ok (.iload_n 2, 1) := by decide +kernel
theorem dX4_estimate_19 : decode cX4_estimate 19 = .ok (.iload 6, 2) := by decide +kernel
theorem dX4_estimate_21 : decode cX4_estimate 21 = .ok (.invokestatic 42, 3) := by decide +kernel
theorem dX4_estimate_24 : decode cX4_estimate 24 = .ok (.iaload, 1) := by decide +kernel
theorem dX4_estimate_25 : decode cX4_estimate 25 = .ok (.istore 7, 2) := by decide +kernel
theorem dX4_estimate_27 : decode cX4_estimate 27 = .ok (.aload_n 0, 1) := by decide +kernel
theorem dX4_estimate_28 : decode cX4_estimate 28 = .ok (.getfield 13, 3) := by decide +kernel
theorem dX4_estimate_31 : decode cX4_estimate 31 = .ok (.iload_n 1, 1) := by decide +kernel
theorem dX4_estimate_32 : decode cX4_estimate 32 = .ok (.iload_n 3, 1) := by decide +kernel
theorem dX4_estimate_33 : decode cX4_estimate 33 = .ok (.iload 6, 2) := by decide +kernel
theorem dX4_estimate_35 : decode cX4_estimate 35 = .ok (.invokestatic 42, 3) := by decide +kernel
theorem dX4_estimate_38 : decode cX4_estimate 38 = .ok (.iaload, 1) := by decide +kernel
theorem dX4_estimate_39 : decode cX4_estimate 39 = .ok (.istore 8, 2) := by decide +kernel
theorem dX4_estimate_41 : decode cX4_estimate 41 = .ok (.iload 7, 2) := by decide +kernel
theorem dX4_estimate_43 : decode cX4_estimate 43 = .ok (.iconst (-1), 1) := by decide +kernel
theorem dX4_estimate_44 : decode cX4_estimate 44 = .ok (.if_icmp .eq 29, 3) := by decide +kernel
theorem dX4_estimate_47 : decode cX4_estimate 47 = .ok (.iload 8, 2) := by decide +kernel
theorem dX4_estimate_49 : decode cX4_estimate 49 = .ok (.iconst (-1), 1) := by decide +kernel
theorem dX4_estimate_50 : decode cX4_estimate 50 = .ok (.if_icmp .eq 23, 3) := by decide +kernel
theorem dX4_estimate_53 : decode cX4_estimate 53 = .ok (.iload 5, 2) := by decide +kernel
theorem dX4_estimate_55 : decode cX4_estimate 55 = .ok (.iconst (-1), 1) := by decide +kernel
theorem dX4_estimate_56 : decode cX4_estimate 56 = .ok (.if_icmp .eq 13, 3) := by decide +kernel
theorem dX4_estimate_59 : decode cX4_estimate 59 = .ok (.iload 7, 2) := by decide +kernel
theorem dX4_estimate_61 : decode cX4_estimate 61 = .ok (.iload 8, 2) := by decide +kernel
theorem dX4_estimate_63 : decode cX4_estimate 63 = .ok (.iadd, 1) := by decide +kernel
theorem dX4_estimate_64 : decode cX4_estimate 64 = .ok (.iload 5, 2) := by decide +kernel
theorem dX4_estimate_66 : decode cX4_estimate 66 = .ok (.if_icmp .ge 7, 3) := by decide +kernel
theorem dX4_estimate_69 : decode cX4_estimate 69 = .ok (.iconst 1, 1) := by decide +kernel
theorem dX4_estimate_70 : decode cX4_estimate 70 = .ok (.goto 4, 3) := by decide +kernel
theorem dX4_estimate_73 : decode cX4_estimate 73 = .ok (.iconst 0, 1) := by decide +kernel
theorem dX4_estimate_74 : decode cX4_estimate 74 = .ok (.istore 9, 2) := by decide +kernel
theorem dX4_estimate_76 : decode cX4_estimate 76 = .ok (.iload 9, 2) := by decide +kernel
theorem dX4_estimate_78 : decode cX4_estimate 78 = .ok (.ifCond .eq 11, 3) := by decide +kernel
theorem dX4_estimate_81 : decode cX4_estimate 81 = .ok (.iload 7, 2) := by decide +kernel
theorem dX4_estimate_83 : decode cX4_estimate 83 = .ok (.iload 8, 2) := by decide +kernel
theorem dX4_estimate_85 : decode cX4_estimate 85 = .ok (.iadd, 1) := by decide +kernel
theorem dX4_estimate_86 : decode cX4_estimate 86 = .ok (.goto 5, 3) := by decide +kernel
theorem dX4_estimate_89 : decode cX4_estimate 89 = .ok (.iload 5, 2) := by decide +kernel
theorem dX4_estimate_91 : decode cX4_estimate 91 = .ok (.istore 5, 2) := by decide +kernel
theorem dX4_estimate_93 : decode cX4_estimate 93 = .ok (.iinc 6 1, 3) := by decide +kernel
theorem dX4_estimate_96 : decode cX4_estimate 96 = .ok (.goto (-90), 3) := by decide +kernel
theorem dX4_estimate_99 : decode cX4_estimate 99 = .ok (.iload 5, 2) := by decide +kernel
theorem dX4_estimate_101 : decode cX4_estimate 101 = .ok (.ireturn, 1) := by decide +kernel
set_option maxRecDepth 20000 in
theorem ggX4_isPruned_X4_estimate : GoodIn wsX4_isPruned wsX4_estimate := goodIn_r _ [6, 7, 8, 9, 5, 10, 11, 12, 13, 14, 15, 16, 17, 18, 19, 20, 21, 22, 23, 24, 25, 26, 27] (by decide +kernel) (by decide +kernel)
set_option maxRecDepth 20000 in
theorem gX4_isPruned_X4_estimate : GoodIn wsX4_isPruned (wsV RX4 46 RX4 yX4_estimate wsX4_estimate) := goodIn_app (goodIn_of _ (by decide +kernel)) ggX4_isPruned_X4_estimate
theorem dX4_isPruned_0 : decode cX4_isPruned 0 = .ok (.aload_n 0, 1) := by decide +kernel
theorem dX4_isPruned_1 : decode cX4_isPruned 1 = .ok (.iload_n 1, 1) := by decide +kernel
theorem dX4_isPruned_2 : decode cX4_isPruned 2 = .ok (.aload_n 0, 1) := by decide +kernel
theorem dX4_isPruned_3 : decode cX4_isPruned 3 = .ok (.getfield 20, 3) := by decide +kernel
theorem dX4_isPruned_6 : decode cX4_isPruned 6 = .ok (.bipush 48, 2) := by decide +kernel
theorem dX4_isPruned_8 : decode cX4_isPruned 8 = .ok (.iload_n 1, 1) := by decide +kernel
theorem dX4_isPruned_9 : decode cX4_isPruned 9 = .ok (.imul, 1) := by decide +kernel
theorem dX4_isPruned_10 : decode cX4_isPruned 10 = .ok (.iload_n 2, 1) := by decide +kernel
theorem dX4_isPruned_11 : decode cX4_isPruned 11 = .ok (.iadd, 1) := by decide +kernel
theorem dX4_isPruned_12 : decode cX4_isPruned 12 = .ok (.iaload, 1) := by decide +kernel
theorem dX4_isPruned_13 : decode cX4_isPruned 13 = .ok (.iload_n 3, 1) := by decide +kernel
theorem dX4_isPruned_14 : decode cX4_isPruned 14 = .ok (.iload_n 2, 1) := by decide +kernel
theorem dX4_isPruned_15 : decode cX4_isPruned 15 = .ok (.invokevirtual 46, 3) := by decide +kernel
theorem dX4_isPruned_18 : decode cX4_isPruned 18 = .ok (.istore 5, 2) := by decide +kernel
theorem dX4_isPruned_20 : decode cX4_isPruned 20 = .ok (.iload 5, 2) := by decide +kernel
theorem dX4_isPruned_22 : decode cX4_isPruned 22 = .ok (.iconst (-1), 1) := by decide +kernel
theorem dX4_isPruned_23 : decode cX4_isPruned 23 = .ok (.if_icmp .eq 14, 3) := by decide +kernel
theorem dX4_isPruned_26 : decode cX4_isPruned 26 = .ok (.iload 5, 2) := by decide +kernel
theorem dX4_isPruned_28 : decode cX4_isPruned 28 = .ok (.iload 4, 2) := by decide +kernel
theorem dX4_isPruned_30 : decode cX4_isPruned 30 = .ok (.if_icmp .gt 7, 3) := by decide +kernel
theorem dX4_isPruned_33 : decode cX4_isPruned 33 = .ok (.iconst 1, 1) := by decide +kernel
theorem dX4_isPruned_34 : decode cX4_isPruned 34 = .ok (.goto 4, 3) := by decide +kernel
theorem dX4_isPruned_37 : decode cX4_isPruned 37 = .ok (.iconst 0, 1) := by decide +kernel
theorem dX4_isPruned_38 : decode cX4_isPruned 38 = .ok (.ireturn, 1) := by decide +kernel
set_option maxRecDepth 20000 in
theorem ggX4_searches_X4_isPruned : GoodIn wsX4_searches wsX4_isPruned := goodIn_r _ [14, 15, 16, 17, 18, 13, 19, 6, 20, 21, 22, 28, 29, 30, 31, 32, 33, 34, 35, 36, 37, 38, 39, 40, 41, 42, 43, 44] (by decide +kernel) (by decide +kernel)
set_option maxRecDepth 20000 in
theorem gX4_searches_X4_isPruned : GoodIn wsX4_searches (wsV RX4 50 RX4 yX4_isPruned wsX4_isPruned) := goodIn_app (goodIn_of _ (by decide +kernel)) ggX4_searches_X4_isPruned
set_option maxRecDepth 20000 in
theorem ggX4_searches_X4_at : GoodIn wsX4_searches wsX4_at := goodIn_r _ [22] (by decide +kernel) (by decide +kernel)
set_option maxRecDepth 20000 in
theorem gX4_searches_X4_at : GoodIn wsX4_searches (va_wsS RX4 42 yX4_at wsX4_at) := goodIn_app (goodIn_of _ (by decide +kernel)) ggX4_searches_X4_at
set_option maxRecDepth 20000 in
theorem ggX4_searches_X4_isEdge : GoodIn wsX4_searches wsX4_isEdge := goodIn_r _ [26, 27, 28, 29, 30, 31, 32, 33, 34, 35, 36, 37, 38, 39, 40, 41, 42, 43, 44] (by decide +kernel) (by decide +kernel)
set_option maxRecDepth 20000 in
theorem gX4_searches_X4_isEdge : GoodIn wsX4_searches (wsV RX4 63 RX4 yX4_isEdge wsX4_isEdge) := goodIn_app (goodIn_of _ (by decide +kernel)) ggX4_searches_X4_isEdge
theorem dX4_searches_0 : decode cX4_searches 0 = .ok (.lconst 1, 1) := by decide +kernel
theorem dX4_searches_1 : decode cX4_searches 1 = .ok (.iload_n 3, 1) := by decide +kernel
theorem dX4_searches_2 : decode cX4_searches 2 = .ok (.lshl, 1) := by decide +kernel
theorem dX4_searches_3 : decode cX4_searches 3 = .ok (.lstore 6, 2) := by decide +kernel
theorem dX4_searches_5 : decode cX4_searches 5 = .ok (.iconst 1, 1) := by decide +kernel
theorem dX4_searches_6 : decode cX4_searches 6 = .ok (.istore 8, 2) := by decide +kernel
theorem dX4_searches_8 : decode cX4_searches 8 = .ok (.aload_n 0, 1) := by decide +kernel
theorem dX4_searches_9 : decode cX4_searches 9 = .ok (.getfield 26, 3) := by decide +kernel
theorem dX4_searches_12 : decode cX4_searches 12 = .ok (.iconst 0, 1) := by decide +kernel
theorem dX4_searches_13 : decode cX4_searches 13 = .ok (.iload_n 3, 1) := by decide +kernel
theorem dX4_searches_14 : decode cX4_searches 14 = .ok (.iastore, 1) := by decide +kernel
theorem dX4_searches_15 : decode cX4_searches 15 = .ok (.aload_n 0, 1) := by decide +kernel
theorem dX4_searches_16 : decode cX4_searches 16 = .ok (.getfield 29, 3) := by decide +kernel
theorem dX4_searches_19 : decode cX4_searches 19 = .ok (.iconst 0, 1) := by decide +kernel
theorem dX4_searches_20 : decode cX4_searches 20 = .ok (.iload 4, 2) := by decide +kernel
theorem dX4_searches_22 : decode cX4_searches 22 = .ok (.iastore, 1) := by decide +kernel
theorem dX4_searches_23 : decode cX4_searches 23 = .ok (.aload_n 0, 1) := by decide +kernel
theorem dX4_searches_24 : decode cX4_searches 24 = .ok (.getfield 32, 3) := by decide +kernel
theorem dX4_searches_27 : decode cX4_searches 27 = .ok (.iconst 0, 1) := by decide +kernel
theorem dX4_searches_28 : decode cX4_searches 28 = .ok (.iload 5, 2) := by decide +kernel
theorem dX4_searches_30 : decode cX4_searches 30 = .ok (.iastore, 1) := by decide +kernel
theorem dX4_searches_31 : decode cX4_searches 31 = .ok (.iconst 0, 1) := by decide +kernel
theorem dX4_searches_32 : decode cX4_searches 32 = .ok (.istore 9, 2) := by decide +kernel
theorem dX4_searches_34 : decode cX4_searches 34 = .ok (.iload 9, 2) := by decide +kernel
theorem dX4_searches_36 : decode cX4_searches 36 = .ok (.iload 8, 2) := by decide +kernel
theorem dX4_searches_38 : decode cX4_searches 38 = .ok (.if_icmp .ge 203, 3) := by decide +kernel
theorem dX4_searches_41 : decode cX4_searches 41 = .ok (.aload_n 0, 1) := by decide +kernel
theorem dX4_searches_42 : decode cX4_searches 42 = .ok (.getfield 26, 3) := by decide +kernel
theorem dX4_searches_45 : decode cX4_searches 45 = .ok (.iload 9, 2) := by decide +kernel
theorem dX4_searches_47 : decode cX4_searches 47 = .ok (.iaload, 1) := by decide +kernel
theorem dX4_searches_48 : decode cX4_searches 48 = .ok (.istore 10, 2) := by decide +kernel
theorem dX4_searches_50 : decode cX4_searches 50 = .ok (.aload_n 0, 1) := by decide +kernel
theorem dX4_searches_51 : decode cX4_searches 51 = .ok (.iload_n 1, 1) := by decide +kernel
theorem dX4_searches_52 : decode cX4_searches 52 = .ok (.iload_n 2, 1) := by decide +kernel
theorem dX4_searches_53 : decode cX4_searches 53 = .ok (.iload 10, 2) := by decide +kernel
theorem dX4_searches_55 : decode cX4_searches 55 = .ok (.aload_n 0, 1) := by decide +kernel
theorem dX4_searches_56 : decode cX4_searches 56 = .ok (.getfield 29, 3) := by decide +kernel
theorem dX4_searches_59 : decode cX4_searches 59 = .ok (.iload 9, 2) := by decide +kernel
theorem dX4_searches_61 : decode cX4_searches 61 = .ok (.iaload, 1) := by decide +kernel
theorem dX4_searches_62 : decode cX4_searches 62 = .ok (.invokevirtual 50, 3) := by decide +kernel
theorem dX4_searches_65 : decode cX4_searches 65 = .ok (.istore 11, 2) := by decide +kernel
theorem dX4_searches_67 : decode cX4_searches 67 = .ok (.aload_n 0, 1) := by decide +kernel
theorem dX4_searches_68 : decode cX4_searches 68 = .ok (.dup, 1) := by decide +kernel
theorem dX4_searches_69 : decode cX4_searches 69 = .ok (.getfield 54, 3) := by decide +kernel
theorem dX4_searches_72 : decode cX4_searches 72 = .ok (.iconst 1, 1) := by decide +kernel
theorem dX4_searches_73 : decode cX4_searches 73 = .ok (.iadd, 1) := by decide +kernel
theorem dX4_searches_74 : decode cX4_searches 74 = .ok (.putfield 54, 3) := by decide +kernel
theorem dX4_searches_77 : decode cX4_searches 77 = .ok (.iload 11, 2) := by decide +kernel
theorem dX4_searches_79 : decode cX4_searches 79 = .ok (.ifCond .eq 16, 3) := by decide +kernel
theorem dX4_searches_82 : decode cX4_searches 82 = .ok (.aload_n 0, 1) := by decide +kernel
theorem dX4_searches_83 : decode cX4_searches 83 = .ok (.dup, 1) := by decide +kernel
theorem dX4_searches_84 : decode cX4_searches 84 = .ok (.getfield 57, 3) := by decide +kernel
theorem dX4_searches_87 : decode cX4_searches 87 = .ok (.iconst 1, 1) := by decide +kernel
theorem dX4_searches_88 : decode cX4_searches 88 = .ok (.iadd, 1) := by decide +kernel
theorem dX4_searches_89 : decode cX4_searches 89 = .ok (.putfield 57, 3) := by decide +kernel
theorem dX4_searches_92 : decode cX4_searches 92 = .ok (.goto 51, 3) := by decide +kernel
theorem dX4_searches_95 : decode cX4_searches 95 = .ok (.aload_n 0, 1) := by decide +kernel
theorem dX4_searches_96 : decode cX4_searches 96 = .ok (.getfield 13, 3) := by decide +kernel
theorem dX4_searches_99 : decode cX4_searches 99 = .ok (.iload_n 1, 1) := by decide +kernel
theorem dX4_searches_100 : decode cX4_searches 100 = .ok (.iload 10, 2) := by decide +kernel
theorem dX4_searches_102 : decode cX4_searches 102 = .ok (.iload_n 2, 1) := by decide +kernel
theorem dX4_searches_103 : decode cX4_searches 103 = .ok (.invokestatic 42, 3) := by decide +kernel
theorem dX4_searches_106 : decode cX4_searches 106 = .ok (.aload_n 0, 1) := by decide +kernel
theorem dX4_searches_107 : decode cX4_searches 107 = .ok (.getfield 29, 3) := by decide +kernel
theorem dX4_searches_110 : decode cX4_searches 110 = .ok (.iload 9, 2) := by decide +kernel
theorem dX4_searches_112 : decode cX4_searches 112 = .ok (.iaload, 1) := by decide +kernel
theorem dX4_searches_113 : decode cX4_searches 113 = .ok (.iastore, 1) := by decide +kernel
theorem dX4_searches_114 : decode cX4_searches 114 = .ok (.aload_n 0, 1) := by decide +kernel
theorem dX4_searches_115 : decode cX4_searches 115 = .ok (.getfield 17, 3) := by decide +kernel
theorem dX4_searches_118 : decode cX4_searches 118 = .ok (.iload_n 1, 1) := by decide +kernel
theorem dX4_searches_119 : decode cX4_searches 119 = .ok (.iload 10, 2) := by decide +kernel
theorem dX4_searches_121 : decode cX4_searches 121 = .ok (.iload_n 2, 1) := by decide +kernel
theorem dX4_searches_122 : decode cX4_searches 122 = .ok (.invokestatic 42, 3) := by decide +kernel
theorem dX4_searches_125 : decode cX4_searches 125 = .ok (.aload_n 0, 1) := by decide +kernel
theorem dX4_searches_126 : decode cX4_searches 126 = .ok (.getfield 32, 3) := by decide +kernel
theorem dX4_searches_129 : decode cX4_searches 129 = .ok (.iload 9, 2) := by decide +kernel
theorem dX4_searches_131 : decode cX4_searches 131 = .ok (.iaload, 1) := by decide +kernel
theorem dX4_searches_132 : decode cX4_searches 132 = .ok (.iastore, 1) := by decide +kernel
theorem dX4_searches_133 : decode cX4_searches 133 = .ok (.aload_n 0, 1) := by decide +kernel
theorem dX4_searches_134 : decode cX4_searches 134 = .ok (.dup, 1) := by decide +kernel
theorem dX4_searches_135 : decode cX4_searches 135 = .ok (.getfield 60, 3) := by decide +kernel
theorem dX4_searches_138 : decode cX4_searches 138 = .ok (.iconst 1, 1) := by decide +kernel
theorem dX4_searches_139 : decode cX4_searches 139 = .ok (.iadd, 1) := by decide +kernel
theorem dX4_searches_140 : decode cX4_searches 140 = .ok (.putfield 60, 3) := by decide +kernel
theorem dX4_searches_143 : decode cX4_searches 143 = .ok (.iconst 0, 1) := by decide +kernel
theorem dX4_searches_144 : decode cX4_searches 144 = .ok (.istore 12, 2) := by decide +kernel
theorem dX4_searches_146 : decode cX4_searches 146 = .ok (.iload 12, 2) := by decide +kernel
theorem dX4_searches_148 : decode cX4_searches 148 = .ok (.aload_n 0, 1) := by decide +kernel
theorem dX4_searches_149 : decode cX4_searches 149 = .ok (.getfield 39, 3) := by decide +kernel
theorem dX4_searches_152 : decode cX4_searches 152 = .ok (.if_icmp .ge 83, 3) := by decide +kernel
theorem dX4_searches_155 : decode cX4_searches 155 = .ok (.iload 11, 2) := by decide +kernel
theorem dX4_searches_157 : decode cX4_searches 157 = .ok (.ifCond .ne 78, 3) := by decide +kernel
theorem dX4_searches_160 : decode cX4_searches 160 = .ok (.aload_n 0, 1) := by decide +kernel
theorem dX4_searches_161 : decode cX4_searches 161 = .ok (.iload 10, 2) := by decide +kernel
theorem dX4_searches_163 : decode cX4_searches 163 = .ok (.iload 12, 2) := by decide +kernel
theorem dX4_searches_165 : decode cX4_searches 165 = .ok (.invokevirtual 63, 3) := by decide +kernel
theorem dX4_searches_168 : decode cX4_searches 168 = .ok (.ifCond .eq 61, 3) := by decide +kernel
theorem dX4_searches_171 : decode cX4_searches 171 = .ok (.lload 6, 2) := by decide +kernel
theorem dX4_searches_173 : decode cX4_searches 173 = .ok (.iload 12, 2) := by decide +kernel
theorem dX4_searches_175 : decode cX4_searches 175 = .ok (.lshr, 1) := by decide +kernel
theorem dX4_searches_176 : decode cX4_searches 176 = .ok (.lconst 1, 1) := by decide +kernel
theorem dX4_searches_177 : decode cX4_searches 177 = .ok (.land, 1) := by decide +kernel
theorem dX4_searches_178 : decode cX4_searches 178 = .ok (.lconst 0, 1) := by decide +kernel
theorem dX4_searches_179 : decode cX4_searches 179 = .ok (.lcmp, 1) := by decide +kernel
theorem dX4_searches_180 : decode cX4_searches 180 = .ok (.ifCond .ne 49, 3) := by decide +kernel
theorem dX4_searches_183 : decode cX4_searches 183 = .ok (.lload 6, 2) := by decide +kernel
theorem dX4_searches_185 : decode cX4_searches 185 = .ok (.lconst 1, 1) := by decide +kernel
theorem dX4_searches_186 : decode cX4_searches 186 = .ok (.iload 12, 2) := by decide +kernel
theorem dX4_searches_188 : decode cX4_searches 188 = .ok (.lshl, 1) := by decide +kernel
theorem dX4_searches_189 : decode cX4_searches 189 = .ok (.lor, 1) := by decide +kernel
theorem dX4_searches_190 : decode cX4_searches 190 = .ok (.lstore 6, 2) := by decide +kernel
theorem dX4_searches_192 : decode cX4_searches 192 = .ok (.aload_n 0, 1) := by decide +kernel
theorem dX4_searches_193 : decode cX4_searches 193 = .ok (.getfield 26, 3) := by decide +kernel
theorem dX4_searches_196 : decode cX4_searches 196 = .ok (.iload 8, 2) := by decide +kernel
theorem dX4_searches_198 : decode cX4_searches 198 = .ok (.iload 12, 2) := by decide +kernel
theorem dX4_searches_200 : decode cX4_searches 200 = .ok (.iastore, 1) := by decide +kernel
theorem dX4_searches_201 : decode cX4_searches 201 = .ok (.aload_n 0, 1) := by decide +kernel
theorem dX4_searches_202 : decode cX4_searches 202 = .ok (.getfield 29, 3) := by decide +kernel
theorem dX4_searches_205 : decode cX4_searches 205 = .ok (.iload 8, 2) := by decide +kernel
theorem dX4_searches_207 : decode cX4_searches 207 = .ok (.aload_n 0, 1) := by decide +kernel
theorem dX4_searches_208 : decode cX4_searches 208 = .ok (.getfield 29, 3) := by decide +kernel
theorem dX4_searches_211 : decode cX4_searches 211 = .ok (.iload 9, 2) := by decide +kernel
theorem dX4_searches_213 : decode cX4_searches 213 = .ok (.iaload, 1) := by decide +kernel
theorem dX4_searches_214 : decode cX4_searches 214 = .ok (.iconst 1, 1) := by decide +kernel
theorem dX4_searches_215 : decode cX4_searches 215 = .ok (.iadd, 1) := by decide +kernel
theorem dX4_searches_216 : decode cX4_searches 216 = .ok (.iastore, 1) := by decide +kernel
theorem dX4_searches_217 : decode cX4_searches 217 = .ok (.aload_n 0, 1) := by decide +kernel
theorem dX4_searches_218 : decode cX4_searches 218 = .ok (.getfield 32, 3) := by decide +kernel
theorem dX4_searches_221 : decode cX4_searches 221 = .ok (.iload 8, 2) := by decide +kernel
theorem dX4_searches_223 : decode cX4_searches 223 = .ok (.iload 10, 2) := by decide +kernel
theorem dX4_searches_225 : decode cX4_searches 225 = .ok (.iastore, 1) := by decide +kernel
theorem dX4_searches_226 : decode cX4_searches 226 = .ok (.iinc 8 1, 3) := by decide +kernel
theorem dX4_searches_229 : decode cX4_searches 229 = .ok (.iinc 12 1, 3) := by decide +kernel
theorem dX4_searches_232 : decode cX4_searches 232 = .ok (.goto (-86), 3) := by decide +kernel
theorem dX4_searches_235 : decode cX4_searches 235 = .ok (.iinc 9 1, 3) := by decide +kernel
theorem dX4_searches_238 : decode cX4_searches 238 = .ok (.goto (-204), 3) := by decide +kernel
theorem dX4_searches_241 : decode cX4_searches 241 = .ok (.return_, 1) := by decide +kernel
theorem dX4_counts_0 : decode cX4_counts 0 = .ok (.aload_n 0, 1) := by decide +kernel
theorem dX4_counts_1 : decode cX4_counts 1 = .ok (.iconst 0, 1) := by decide +kernel
theorem dX4_counts_2 : decode cX4_counts 2 = .ok (.putfield 54, 3) := by decide +kernel
theorem dX4_counts_5 : decode cX4_counts 5 = .ok (.aload_n 0, 1) := by decide +kernel
theorem dX4_counts_6 : decode cX4_counts 6 = .ok (.iconst 0, 1) := by decide +kernel
theorem dX4_counts_7 : decode cX4_counts 7 = .ok (.putfield 57, 3) := by decide +kernel
theorem dX4_counts_10 : decode cX4_counts 10 = .ok (.aload_n 0, 1) := by decide +kernel
theorem dX4_counts_11 : decode cX4_counts 11 = .ok (.iconst 0, 1) := by decide +kernel
theorem dX4_counts_12 : decode cX4_counts 12 = .ok (.putfield 60, 3) := by decide +kernel
theorem dX4_counts_15 : decode cX4_counts 15 = .ok (.return_, 1) := by decide +kernel
set_option maxRecDepth 20000 in
theorem ggX4_degree_X4_isEdge : GoodIn wsX4_degree wsX4_isEdge := goodIn_r _ [6, 7, 8, 9, 10, 11, 12, 13, 14, 15, 16, 17, 18, 19, 20, 21, 22, 23, 24] (by decide +kernel) (by decide +kernel)
set_option maxRecDepth 20000 in
theorem gX4_degree_X4_isEdge : GoodIn wsX4_degree (wsV RX4 63 RX4 yX4_isEdge wsX4_isEdge) := goodIn_app (goodIn_of _ (by decide +kernel)) ggX4_degree_X4_isEdge
theorem dX4_degree_0 : decode cX4_degree 0 = .ok (.iconst 0, 1) := by decide +kernel
theorem dX4_degree_1 : decode cX4_degree 1 = .ok (.istore_n 2, 1) := by decide +kernel
theorem dX4_degree_2 : decode cX4_degree 2 = .ok (.iconst 0, 1) := by decide +kernel
theorem dX4_degree_3 : decode cX4_degree 3 = .ok (.istore_n 3, 1) := by decide +kernel
theorem dX4_degree_4 : decode cX4_degree 4 = .ok (.iload_n 3, 1) := by decide +kernel
theorem dX4_degree_5 : decode cX4_degree 5 = .ok (.aload_n 0, 1) := by decide +kernel
theorem dX4_degree_6 : decode cX4_degree 6 = .ok (.getfield 39, 3) := by decide +kernel
theorem dX4_degree_9 : decode cX4_degree 9 = .ok (.if_icmp .ge 26, 3) := by decide +kernel
theorem dX4_degree_12 : decode cX4_degree 12 = .ok (.iload_n 2, 1) := by decide +kernel
theorem dX4_degree_13 : decode cX4_degree 13 = .ok (.aload_n 0, 1) := by decide +kernel
theorem dX4_degree_14 : decode cX4_degree 14 = .ok (.iload_n 1, 1) := by decide +kernel
theorem dX4_degree_15 : decode cX4_degree 15 = .ok (.iload_n 3, 1) := by decide +kernel
theorem dX4_degree_16 : decode cX4_degree 16 = .ok (.invokevirtual 63, 3) := by decide +kernel
theorem dX4_degree_19 : decode cX4_degree 19 = .ok (.ifCond .eq 7, 3) := by decide +kernel
theorem dX4_degree_22 : decode cX4_degree 22 = .ok (.iconst 1, 1) := by decide +kernel
theorem dX4_degree_23 : decode cX4_degree 23 = .ok (.goto 4, 3) := by decide +kernel
theorem dX4_degree_26 : decode cX4_degree 26 = .ok (.iconst 0, 1) := by decide +kernel
theorem dX4_degree_27 : decode cX4_degree 27 = .ok (.iadd, 1) := by decide +kernel
theorem dX4_degree_28 : decode cX4_degree 28 = .ok (.istore_n 2, 1) := by decide +kernel
theorem dX4_degree_29 : decode cX4_degree 29 = .ok (.iinc 3 1, 3) := by decide +kernel
theorem dX4_degree_32 : decode cX4_degree 32 = .ok (.goto (-28), 3) := by decide +kernel
theorem dX4_degree_35 : decode cX4_degree 35 = .ok (.iload_n 2, 1) := by decide +kernel
theorem dX4_degree_36 : decode cX4_degree 36 = .ok (.ireturn, 1) := by decide +kernel
set_option maxRecDepth 20000 in
theorem ggX4_givesRanks_X4_degree : GoodIn wsX4_givesRanks wsX4_degree := goodIn_r _ [8, 1, 9, 10, 11, 7, 12, 13, 14, 15, 16, 17, 18, 19, 20, 21, 22, 23, 24, 25, 26, 27, 28, 29, 30] (by decide +kernel) (by decide +kernel)
set_option maxRecDepth 20000 in
theorem gX4_givesRanks_X4_degree : GoodIn wsX4_givesRanks (wsV RX4 67 RX4 yX4_degree wsX4_degree) := goodIn_app (goodIn_of _ (by decide +kernel)) ggX4_givesRanks_X4_degree
theorem dX4_givesRanks_0 : decode cX4_givesRanks 0 = .ok (.iconst 0, 1) := by decide +kernel
theorem dX4_givesRanks_1 : decode cX4_givesRanks 1 = .ok (.istore_n 2, 1) := by decide +kernel
theorem dX4_givesRanks_2 : decode cX4_givesRanks 2 = .ok (.iload_n 2, 1) := by decide +kernel
theorem dX4_givesRanks_3 : decode cX4_givesRanks 3 = .ok (.aload_n 0, 1) := by decide +kernel
theorem dX4_givesRanks_4 : decode cX4_givesRanks 4 = .ok (.getfield 39, 3) := by decide +kernel
theorem dX4_givesRanks_7 : decode cX4_givesRanks 7 = .ok (.if_icmp .ge 107, 3) := by decide +kernel
theorem dX4_givesRanks_10 : decode cX4_givesRanks 10 = .ok (.iconst 0, 1) := by decide +kernel
theorem dX4_givesRanks_11 : decode cX4_givesRanks 11 = .ok (.istore_n 3, 1) := by decide +kernel
theorem dX4_givesRanks_12 : decode cX4_givesRanks 12 = .ok (.iconst 0, 1) := by decide +kernel
theorem dX4_givesRanks_13 : decode cX4_givesRanks 13 = .ok (.istore 4, 2) := by decide +kernel
theorem dX4_givesRanks_15 : decode cX4_givesRanks 15 = .ok (.iload 4, 2) := by decide +kernel
theorem dX4_givesRanks_17 : decode cX4_givesRanks 17 = .ok (.aload_n 0, 1) := by decide +kernel
theorem dX4_givesRanks_18 : decode cX4_givesRanks 18 = .ok (.getfield 39, 3) := by decide +kernel
theorem dX4_givesRanks_21 : decode cX4_givesRanks 21 = .ok (.if_icmp .ge 63, 3) := by decide +kernel
theorem dX4_givesRanks_24 : decode cX4_givesRanks 24 = .ok (.aload_n 0, 1) := by decide +kernel
theorem dX4_givesRanks_25 : decode cX4_givesRanks 25 = .ok (.iload 4, 2) := by decide +kernel
theorem dX4_givesRanks_27 : decode cX4_givesRanks 27 = .ok (.invokevirtual 67, 3) := by decide +kernel
theorem dX4_givesRanks_30 : decode cX4_givesRanks 30 = .ok (.aload_n 0, 1) := by decide +kernel
theorem dX4_givesRanks_31 : decode cX4_givesRanks 31 = .ok (.iload_n 2, 1) := by decide +kernel
theorem dX4_givesRanks_32 : decode cX4_givesRanks 32 = .ok (.invokevirtual 67, 3) := by decide +kernel
theorem dX4_givesRanks_35 : decode cX4_givesRanks 35 = .ok (.if_icmp .gt 23, 3) := by decide +kernel
theorem dX4_givesRanks_38 : decode cX4_givesRanks 38 = .ok (.aload_n 0, 1) := by decide +kernel
theorem dX4_givesRanks_39 : decode cX4_givesRanks 39 = .ok (.iload 4, 2) := by decide +kernel
theorem dX4_givesRanks_41 : decode cX4_givesRanks 41 = .ok (.invokevirtual 67, 3) := by decide +kernel
theorem dX4_givesRanks_44 : decode cX4_givesRanks 44 = .ok (.aload_n 0, 1) := by decide +kernel
theorem dX4_givesRanks_45 : decode cX4_givesRanks 45 = .ok (.iload_n 2, 1) := by decide +kernel
theorem dX4_givesRanks_46 : decode cX4_givesRanks 46 = .ok (.invokevirtual 67, 3) := by decide +kernel
theorem dX4_givesRanks_49 : decode cX4_givesRanks 49 = .ok (.if_icmp .ne 13, 3) := by decide +kernel
theorem dX4_givesRanks_52 : decode cX4_givesRanks 52 = .ok (.iload 4, 2) := by decide +kernel
theorem dX4_givesRanks_54 : decode cX4_givesRanks 54 = .ok (.iload_n 2, 1) := by decide +kernel
theorem dX4_givesRanks_55 : decode cX4_givesRanks 55 = .ok (.if_icmp .ge 7, 3) := by decide +kernel
theorem dX4_givesRanks_58 : decode cX4_givesRanks 58 = .ok (.iconst 1, 1) := by decide +kernel
theorem dX4_givesRanks_59 : decode cX4_givesRanks 59 = .ok (.goto 4, 3) := by decide +kernel
theorem dX4_givesRanks_62 : decode cX4_givesRanks 62 = .ok (.iconst 0, 1) := by decide +kernel
theorem dX4_givesRanks_63 : decode cX4_givesRanks 63 = .ok (.istore 5, 2) := by decide +kernel
theorem dX4_givesRanks_65 : decode cX4_givesRanks 65 = .ok (.iload_n 3, 1) := by decide +kernel
theorem dX4_givesRanks_66 : decode cX4_givesRanks 66 = .ok (.iload 5, 2) := by decide +kernel
theorem dX4_givesRanks_68 : decode cX4_givesRanks 68 = .ok (.ifCond .eq 7, 3) := by decide +kernel
theorem dX4_givesRanks_71 : decode cX4_givesRanks 71 = .ok (.iconst 1, 1) := by decide +kernel
theorem dX4_givesRanks_72 : decode cX4_givesRanks 72 = .ok (.goto 4, 3) := by decide +kernel
theorem dX4_givesRanks_75 : decode cX4_givesRanks 75 = .ok (.iconst 0, 1) := by decide +kernel
theorem dX4_givesRanks_76 : decode cX4_givesRanks 76 = .ok (.iadd, 1) := by decide +kernel
theorem dX4_givesRanks_77 : decode cX4_givesRanks 77 = .ok (.istore_n 3, 1) := by decide +kernel
theorem dX4_givesRanks_78 : decode cX4_givesRanks 78 = .ok (.iinc 4 1, 3) := by decide +kernel
theorem dX4_givesRanks_81 : decode cX4_givesRanks 81 = .ok (.goto (-66), 3) := by decide +kernel
theorem dX4_givesRanks_84 : decode cX4_givesRanks 84 = .ok (.aload_n 0, 1) := by decide +kernel
theorem dX4_givesRanks_85 : decode cX4_givesRanks 85 = .ok (.getfield 23, 3) := by decide +kernel
theorem dX4_givesRanks_88 : decode cX4_givesRanks 88 = .ok (.bipush 48, 2) := by decide +kernel
theorem dX4_givesRanks_90 : decode cX4_givesRanks 90 = .ok (.iload_n 1, 1) := by decide +kernel
theorem dX4_givesRanks_91 : decode cX4_givesRanks 91 = .ok (.imul, 1) := by decide +kernel
theorem dX4_givesRanks_92 : decode cX4_givesRanks 92 = .ok (.iload_n 2, 1) := by decide +kernel
theorem dX4_givesRanks_93 : decode cX4_givesRanks 93 = .ok (.iadd, 1) := by decide +kernel
theorem dX4_givesRanks_94 : decode cX4_givesRanks 94 = .ok (.iload_n 3, 1) := by decide +kernel
theorem dX4_givesRanks_95 : decode cX4_givesRanks 95 = .ok (.iastore, 1) := by decide +kernel
theorem dX4_givesRanks_96 : decode cX4_givesRanks 96 = .ok (.aload_n 0, 1) := by decide +kernel
theorem dX4_givesRanks_97 : decode cX4_givesRanks 97 = .ok (.getfield 20, 3) := by decide +kernel
theorem dX4_givesRanks_100 : decode cX4_givesRanks 100 = .ok (.bipush 48, 2) := by decide +kernel
theorem dX4_givesRanks_102 : decode cX4_givesRanks 102 = .ok (.iload_n 1, 1) := by decide +kernel
theorem dX4_givesRanks_103 : decode cX4_givesRanks 103 = .ok (.imul, 1) := by decide +kernel
theorem dX4_givesRanks_104 : decode cX4_givesRanks 104 = .ok (.iload_n 3, 1) := by decide +kernel
theorem dX4_givesRanks_105 : decode cX4_givesRanks 105 = .ok (.iadd, 1) := by decide +kernel
theorem dX4_givesRanks_106 : decode cX4_givesRanks 106 = .ok (.iload_n 2, 1) := by decide +kernel
theorem dX4_givesRanks_107 : decode cX4_givesRanks 107 = .ok (.iastore, 1) := by decide +kernel
theorem dX4_givesRanks_108 : decode cX4_givesRanks 108 = .ok (.iinc 2 1, 3) := by decide +kernel
theorem dX4_givesRanks_111 : decode cX4_givesRanks 111 = .ok (.goto (-109), 3) := by decide +kernel
theorem dX4_givesRanks_114 : decode cX4_givesRanks 114 = .ok (.return_, 1) := by decide +kernel
theorem dX4_empties_0 : decode cX4_empties 0 = .ok (.sipush 2304, 3) := by decide +kernel
theorem dX4_empties_3 : decode cX4_empties 3 = .ok (.iload_n 1, 1) := by decide +kernel
theorem dX4_empties_4 : decode cX4_empties 4 = .ok (.imul, 1) := by decide +kernel
theorem dX4_empties_5 : decode cX4_empties 5 = .ok (.istore_n 2, 1) := by decide +kernel
theorem dX4_empties_6 : decode cX4_empties 6 = .ok (.iload_n 2, 1) := by decide +kernel
theorem dX4_empties_7 : decode cX4_empties 7 = .ok (.sipush 2304, 3) := by decide +kernel
theorem dX4_empties_10 : decode cX4_empties 10 = .ok (.iload_n 1, 1) := by decide +kernel
theorem dX4_empties_11 : decode cX4_empties 11 = .ok (.imul, 1) := by decide +kernel
theorem dX4_empties_12 : decode cX4_empties 12 = .ok (.sipush 2304, 3) := by decide +kernel
theorem dX4_empties_15 : decode cX4_empties 15 = .ok (.iadd, 1) := by decide +kernel
theorem dX4_empties_16 : decode cX4_empties 16 = .ok (.if_icmp .ge 23, 3) := by decide +kernel
theorem dX4_empties_19 : decode cX4_empties 19 = .ok (.aload_n 0, 1) := by decide +kernel
theorem dX4_empties_20 : decode cX4_empties 20 = .ok (.getfield 13, 3) := by decide +kernel
theorem dX4_empties_23 : decode cX4_empties 23 = .ok (.iload_n 2, 1) := by decide +kernel
theorem dX4_empties_24 : decode cX4_empties 24 = .ok (.iconst (-1), 1) := by decide +kernel
theorem dX4_empties_25 : decode cX4_empties 25 = .ok (.iastore, 1) := by decide +kernel
theorem dX4_empties_26 : decode cX4_empties 26 = .ok (.aload_n 0, 1) := by decide +kernel
theorem dX4_empties_27 : decode cX4_empties 27 = .ok (.getfield 17, 3) := by decide +kernel
theorem dX4_empties_30 : decode cX4_empties 30 = .ok (.iload_n 2, 1) := by decide +kernel
theorem dX4_empties_31 : decode cX4_empties 31 = .ok (.iconst (-1), 1) := by decide +kernel
theorem dX4_empties_32 : decode cX4_empties 32 = .ok (.iastore, 1) := by decide +kernel
theorem dX4_empties_33 : decode cX4_empties 33 = .ok (.iinc 2 1, 3) := by decide +kernel
theorem dX4_empties_36 : decode cX4_empties 36 = .ok (.goto (-30), 3) := by decide +kernel
theorem dX4_empties_39 : decode cX4_empties 39 = .ok (.return_, 1) := by decide +kernel
set_option maxRecDepth 20000 in
theorem ggX4_builds_X4_empties : GoodIn wsX4_builds wsX4_empties := goodIn_r _ [7, 8, 9, 49, 50, 51, 52, 53, 54, 55, 56, 57, 58, 59, 60, 61, 62, 63, 64, 65] (by decide +kernel) (by decide +kernel)
set_option maxRecDepth 20000 in
theorem gX4_builds_X4_empties : GoodIn wsX4_builds (wsV RX4 71 RX4 yX4_empties wsX4_empties) := goodIn_app (goodIn_of _ (by decide +kernel)) ggX4_builds_X4_empties
set_option maxRecDepth 20000 in
theorem ggX4_builds_X4_givesRanks : GoodIn wsX4_builds wsX4_givesRanks := goodIn_r _ [13, 1, 14, 2, 15, 16, 17, 6, 18, 19, 20, 21, 22, 23, 49, 50, 51, 52, 53, 54, 55, 56, 57, 58, 59, 60, 61, 62, 63, 64, 65] (by decide +kernel) (by decide +kernel)
set_option maxRecDepth 20000 in
theorem gX4_builds_X4_givesRanks : GoodIn wsX4_builds (wsV RX4 75 RX4 yX4_givesRanks wsX4_givesRanks) := goodIn_app (goodIn_of _ (by decide +kernel)) ggX4_builds_X4_givesRanks
set_option maxRecDepth 20000 in
theorem ggX4_builds_X4_counts : GoodIn wsX4_builds wsX4_counts := goodIn_r _ [27, 28, 29, 30, 49, 50, 51, 52, 53, 54, 55, 56, 57, 58, 59, 60, 61, 62, 63, 64, 65] (by decide +kernel) (by decide +kernel)
set_option maxRecDepth 20000 in
theorem gX4_builds_X4_counts : GoodIn wsX4_builds (wsV RX4 78 RX4 yX4_counts wsX4_counts) := goodIn_app (goodIn_of _ (by decide +kernel)) ggX4_builds_X4_counts
set_option maxRecDepth 20000 in
theorem ggX4_builds_X4_searches : GoodIn wsX4_builds wsX4_searches := goodIn_r _ [34, 35, 36, 37, 28, 29, 8, 9, 30, 1, 38, 39, 40, 6, 41, 2, 42, 43, 44, 45, 46, 47, 48, 19, 20, 21, 22, 23, 49, 50, 51, 52, 53, 54, 55, 56, 57, 58, 59, 60, 61, 62, 63, 64, 65] (by decide +kernel) (by decide +kernel)
set_option maxRecDepth 20000 in
theorem gX4_builds_X4_searches : GoodIn wsX4_builds (wsV RX4 81 RX4 yX4_searches wsX4_searches) := goodIn_app (goodIn_of _ (by decide +kernel)) ggX4_builds_X4_searches
theorem dX4_builds_0 : decode cX4_builds 0 = .ok (.aload_n 0, 1) := by decide +kernel
theorem dX4_builds_1 : decode cX4_builds 1 = .ok (.iload_n 1, 1) := by decide +kernel
theorem dX4_builds_2 : decode cX4_builds 2 = .ok (.invokevirtual 71, 3) := by decide +kernel
theorem dX4_builds_5 : decode cX4_builds 5 = .ok (.aload_n 0, 1) := by decide +kernel
theorem dX4_builds_6 : decode cX4_builds 6 = .ok (.iload_n 1, 1) := by decide +kernel
theorem dX4_builds_7 : decode cX4_builds 7 = .ok (.invokevirtual 75, 3) := by decide +kernel
theorem dX4_builds_10 : decode cX4_builds 10 = .ok (.aload_n 0, 1) := by decide +kernel
theorem dX4_builds_11 : decode cX4_builds 11 = .ok (.invokevirtual 78, 3) := by decide +kernel
theorem dX4_builds_14 : decode cX4_builds 14 = .ok (.iconst 0, 1) := by decide +kernel
theorem dX4_builds_15 : decode cX4_builds 15 = .ok (.istore_n 2, 1) := by decide +kernel
theorem dX4_builds_16 : decode cX4_builds 16 = .ok (.iload_n 2, 1) := by decide +kernel
theorem dX4_builds_17 : decode cX4_builds 17 = .ok (.aload_n 0, 1) := by decide +kernel
theorem dX4_builds_18 : decode cX4_builds 18 = .ok (.getfield 39, 3) := by decide +kernel
theorem dX4_builds_21 : decode cX4_builds 21 = .ok (.if_icmp .ge 28, 3) := by decide +kernel
theorem dX4_builds_24 : decode cX4_builds 24 = .ok (.aload_n 0, 1) := by decide +kernel
theorem dX4_builds_25 : decode cX4_builds 25 = .ok (.iload_n 1, 1) := by decide +kernel
theorem dX4_builds_26 : decode cX4_builds 26 = .ok (.iload_n 2, 1) := by decide +kernel
theorem dX4_builds_27 : decode cX4_builds 27 = .ok (.aload_n 0, 1) := by decide +kernel
theorem dX4_builds_28 : decode cX4_builds 28 = .ok (.getfield 20, 3) := by decide +kernel
theorem dX4_builds_31 : decode cX4_builds 31 = .ok (.bipush 48, 2) := by decide +kernel
theorem dX4_builds_33 : decode cX4_builds 33 = .ok (.iload_n 1, 1) := by decide +kernel
theorem dX4_builds_34 : decode cX4_builds 34 = .ok (.imul, 1) := by decide +kernel
theorem dX4_builds_35 : decode cX4_builds 35 = .ok (.iload_n 2, 1) := by decide +kernel
theorem dX4_builds_36 : decode cX4_builds 36 = .ok (.iadd, 1) := by decide +kernel
theorem dX4_builds_37 : decode cX4_builds 37 = .ok (.iaload, 1) := by decide +kernel
theorem dX4_builds_38 : decode cX4_builds 38 = .ok (.iconst 0, 1) := by decide +kernel
theorem dX4_builds_39 : decode cX4_builds 39 = .ok (.iconst (-1), 1) := by decide +kernel
theorem dX4_builds_40 : decode cX4_builds 40 = .ok (.invokevirtual 81, 3) := by decide +kernel
theorem dX4_builds_43 : decode cX4_builds 43 = .ok (.iinc 2 1, 3) := by decide +kernel
theorem dX4_builds_46 : decode cX4_builds 46 = .ok (.goto (-30), 3) := by decide +kernel
theorem dX4_builds_49 : decode cX4_builds 49 = .ok (.return_, 1) := by decide +kernel
theorem dX4_keepsCounts_0 : decode cX4_keepsCounts 0 = .ok (.aload_n 0, 1) := by decide +kernel
theorem dX4_keepsCounts_1 : decode cX4_keepsCounts 1 = .ok (.aload_n 0, 1) := by decide +kernel
theorem dX4_keepsCounts_2 : decode cX4_keepsCounts 2 = .ok (.getfield 57, 3) := by decide +kernel
theorem dX4_keepsCounts_5 : decode cX4_keepsCounts 5 = .ok (.putfield 85, 3) := by decide +kernel
theorem dX4_keepsCounts_8 : decode cX4_keepsCounts 8 = .ok (.aload_n 0, 1) := by decide +kernel
theorem dX4_keepsCounts_9 : decode cX4_keepsCounts 9 = .ok (.aload_n 0, 1) := by decide +kernel
theorem dX4_keepsCounts_10 : decode cX4_keepsCounts 10 = .ok (.getfield 60, 3) := by decide +kernel
theorem dX4_keepsCounts_13 : decode cX4_keepsCounts 13 = .ok (.putfield 88, 3) := by decide +kernel
theorem dX4_keepsCounts_16 : decode cX4_keepsCounts 16 = .ok (.return_, 1) := by decide +kernel
set_option maxRecDepth 20000 in
theorem ggX4_adds_X4_at : GoodIn wsX4_adds wsX4_at := goodIn_r _ [11] (by decide +kernel) (by decide +kernel)
set_option maxRecDepth 20000 in
theorem gX4_adds_X4_at : GoodIn wsX4_adds (va_wsS RX4 42 yX4_at wsX4_at) := goodIn_app (goodIn_of _ (by decide +kernel)) ggX4_adds_X4_at
theorem dX4_adds_0 : decode cX4_adds 0 = .ok (.aload_n 0, 1) := by decide +kernel
theorem dX4_adds_1 : decode cX4_adds 1 = .ok (.getfield 7, 3) := by decide +kernel
theorem dX4_adds_4 : decode cX4_adds 4 = .ok (.aload_n 0, 1) := by decide +kernel
theorem dX4_adds_5 : decode cX4_adds 5 = .ok (.getfield 39, 3) := by decide +kernel
theorem dX4_adds_8 : decode cX4_adds 8 = .ok (.lconst 0, 1) := by decide +kernel
theorem dX4_adds_9 : decode cX4_adds 9 = .ok (.lastore, 1) := by decide +kernel
theorem dX4_adds_10 : decode cX4_adds 10 = .ok (.aload_n 0, 1) := by decide +kernel
theorem dX4_adds_11 : decode cX4_adds 11 = .ok (.getfield 91, 3) := by decide +kernel
theorem dX4_adds_14 : decode cX4_adds 14 = .ok (.ifCond .eq 91, 3) := by decide +kernel
theorem dX4_adds_17 : decode cX4_adds 17 = .ok (.iconst 0, 1) := by decide +kernel
theorem dX4_adds_18 : decode cX4_adds 18 = .ok (.istore_n 1, 1) := by decide +kernel
theorem dX4_adds_19 : decode cX4_adds 19 = .ok (.iload_n 1, 1) := by decide +kernel
theorem dX4_adds_20 : decode cX4_adds 20 = .ok (.bipush 48, 2) := by decide +kernel
theorem dX4_adds_22 : decode cX4_adds 22 = .ok (.if_icmp .ge 39, 3) := by decide +kernel
theorem dX4_adds_25 : decode cX4_adds 25 = .ok (.aload_n 0, 1) := by decide +kernel
theorem dX4_adds_26 : decode cX4_adds 26 = .ok (.getfield 13, 3) := by decide +kernel
theorem dX4_adds_29 : decode cX4_adds 29 = .ok (.iconst 0, 1) := by decide +kernel
theorem dX4_adds_30 : decode cX4_adds 30 = .ok (.aload_n 0, 1) := by decide +kernel
theorem dX4_adds_31 : decode cX4_adds 31 = .ok (.getfield 39, 3) := by decide +kernel
theorem dX4_adds_34 : decode cX4_adds 34 = .ok (.iload_n 1, 1) := by decide +kernel
theorem dX4_adds_35 : decode cX4_adds 35 = .ok (.invokestatic 42, 3) := by decide +kernel
theorem dX4_adds_38 : decode cX4_adds 38 = .ok (.iconst (-1), 1) := by decide +kernel
theorem dX4_adds_39 : decode cX4_adds 39 = .ok (.iastore, 1) := by decide +kernel
theorem dX4_adds_40 : decode cX4_adds 40 = .ok (.aload_n 0, 1) := by decide +kernel
theorem dX4_adds_41 : decode cX4_adds 41 = .ok (.getfield 17, 3) := by decide +kernel
theorem dX4_adds_44 : decode cX4_adds 44 = .ok (.iconst 0, 1) := by decide +kernel
theorem dX4_adds_45 : decode cX4_adds 45 = .ok (.aload_n 0, 1) := by decide +kernel
theorem dX4_adds_46 : decode cX4_adds 46 = .ok (.getfield 39, 3) := by decide +kernel
theorem dX4_adds_49 : decode cX4_adds 49 = .ok (.iload_n 1, 1) := by decide +kernel
theorem dX4_adds_50 : decode cX4_adds 50 = .ok (.invokestatic 42, 3) := by decide +kernel
theorem dX4_adds_53 : decode cX4_adds 53 = .ok (.iconst (-1), 1) := by decide +kernel
theorem dX4_adds_54 : decode cX4_adds 54 = .ok (.iastore, 1) := by decide +kernel
theorem dX4_adds_55 : decode cX4_adds 55 = .ok (.iinc 1 1, 3) := by decide +kernel
theorem dX4_adds_58 : decode cX4_adds 58 = .ok (.goto (-39), 3) := by decide +kernel
theorem dX4_adds_61 : decode cX4_adds 61 = .ok (.aload_n 0, 1) := by decide +kernel
theorem dX4_adds_62 : decode cX4_adds 62 = .ok (.getfield 13, 3) := by decide +kernel
theorem dX4_adds_65 : decode cX4_adds 65 = .ok (.iconst 0, 1) := by decide +kernel
theorem dX4_adds_66 : decode cX4_adds 66 = .ok (.aload_n 0, 1) := by decide +kernel
theorem dX4_adds_67 : decode cX4_adds 67 = .ok (.getfield 39, 3) := by decide +kernel
theorem dX4_adds_70 : decode cX4_adds 70 = .ok (.aload_n 0, 1) := by decide +kernel
theorem dX4_adds_71 : decode cX4_adds 71 = .ok (.getfield 39, 3) := by decide +kernel
theorem dX4_adds_74 : decode cX4_adds 74 = .ok (.invokestatic 42, 3) := by decide +kernel
theorem dX4_adds_77 : decode cX4_adds 77 = .ok (.iconst 0, 1) := by decide +kernel
theorem dX4_adds_78 : decode cX4_adds 78 = .ok (.iastore, 1) := by decide +kernel
theorem dX4_adds_79 : decode cX4_adds 79 = .ok (.aload_n 0, 1) := by decide +kernel
theorem dX4_adds_80 : decode cX4_adds 80 = .ok (.getfield 23, 3) := by decide +kernel
theorem dX4_adds_83 : decode cX4_adds 83 = .ok (.aload_n 0, 1) := by decide +kernel
theorem dX4_adds_84 : decode cX4_adds 84 = .ok (.getfield 39, 3) := by decide +kernel
theorem dX4_adds_87 : decode cX4_adds 87 = .ok (.aload_n 0, 1) := by decide +kernel
theorem dX4_adds_88 : decode cX4_adds 88 = .ok (.getfield 39, 3) := by decide +kernel
theorem dX4_adds_91 : decode cX4_adds 91 = .ok (.iastore, 1) := by decide +kernel
theorem dX4_adds_92 : decode cX4_adds 92 = .ok (.aload_n 0, 1) := by decide +kernel
theorem dX4_adds_93 : decode cX4_adds 93 = .ok (.getfield 20, 3) := by decide +kernel
theorem dX4_adds_96 : decode cX4_adds 96 = .ok (.aload_n 0, 1) := by decide +kernel
theorem dX4_adds_97 : decode cX4_adds 97 = .ok (.getfield 39, 3) := by decide +kernel
theorem dX4_adds_100 : decode cX4_adds 100 = .ok (.aload_n 0, 1) := by decide +kernel
theorem dX4_adds_101 : decode cX4_adds 101 = .ok (.getfield 39, 3) := by decide +kernel
theorem dX4_adds_104 : decode cX4_adds 104 = .ok (.iastore, 1) := by decide +kernel
theorem dX4_adds_105 : decode cX4_adds 105 = .ok (.aload_n 0, 1) := by decide +kernel
theorem dX4_adds_106 : decode cX4_adds 106 = .ok (.dup, 1) := by decide +kernel
theorem dX4_adds_107 : decode cX4_adds 107 = .ok (.getfield 39, 3) := by decide +kernel
theorem dX4_adds_110 : decode cX4_adds 110 = .ok (.iconst 1, 1) := by decide +kernel
theorem dX4_adds_111 : decode cX4_adds 111 = .ok (.iadd, 1) := by decide +kernel
theorem dX4_adds_112 : decode cX4_adds 112 = .ok (.putfield 39, 3) := by decide +kernel
theorem dX4_adds_115 : decode cX4_adds 115 = .ok (.return_, 1) := by decide +kernel
set_option maxRecDepth 20000 in
theorem ggX4_addVertex_X4_goes : GoodIn wsX4_addVertex wsX4_goes := goodIn_r _ [6, 7, 21, 22, 23, 24, 25, 26, 27, 28, 29, 30, 31, 32, 33, 34, 35, 36, 37] (by decide +kernel) (by decide +kernel)
set_option maxRecDepth 20000 in
theorem gX4_addVertex_X4_goes : GoodIn wsX4_addVertex (wsV RX4 95 RX4 yX4_goes wsX4_goes) := goodIn_app (goodIn_of _ (by decide +kernel)) ggX4_addVertex_X4_goes
set_option maxRecDepth 20000 in
theorem ggX4_addVertex_X4_adds : GoodIn wsX4_addVertex wsX4_adds := goodIn_r _ [11, 12, 1, 13, 14, 15, 16, 17, 18, 19, 5, 20, 21, 22, 23, 24, 25, 26, 27, 28, 29, 30, 31, 32, 33, 34, 35, 36, 37] (by decide +kernel) (by decide +kernel)
set_option maxRecDepth 20000 in
theorem gX4_addVertex_X4_adds : GoodIn wsX4_addVertex (wsV RX4 99 RX4 yX4_adds wsX4_adds) := goodIn_app (goodIn_of _ (by decide +kernel)) ggX4_addVertex_X4_adds
theorem dX4_addVertex_0 : decode cX4_addVertex 0 = .ok (.aload_n 0, 1) := by decide +kernel
theorem dX4_addVertex_1 : decode cX4_addVertex 1 = .ok (.aload_n 0, 1) := by decide +kernel
theorem dX4_addVertex_2 : decode cX4_addVertex 2 = .ok (.getfield 39, 3) := by decide +kernel
theorem dX4_addVertex_5 : decode cX4_addVertex 5 = .ok (.bipush 48, 2) := by decide +kernel
theorem dX4_addVertex_7 : decode cX4_addVertex 7 = .ok (.if_icmp .ne 7, 3) := by decide +kernel
theorem dX4_addVertex_10 : decode cX4_addVertex 10 = .ok (.iconst 1, 1) := by decide +kernel
theorem dX4_addVertex_11 : decode cX4_addVertex 11 = .ok (.goto 4, 3) := by decide +kernel
theorem dX4_addVertex_14 : decode cX4_addVertex 14 = .ok (.iconst 0, 1) := by decide +kernel
theorem dX4_addVertex_15 : decode cX4_addVertex 15 = .ok (.invokevirtual 95, 3) := by decide +kernel
theorem dX4_addVertex_18 : decode cX4_addVertex 18 = .ok (.ifCond .ne 5, 3) := by decide +kernel
theorem dX4_addVertex_21 : decode cX4_addVertex 21 = .ok (.iconst 0, 1) := by decide +kernel
theorem dX4_addVertex_22 : decode cX4_addVertex 22 = .ok (.ireturn, 1) := by decide +kernel
theorem dX4_addVertex_23 : decode cX4_addVertex 23 = .ok (.aload_n 0, 1) := by decide +kernel
theorem dX4_addVertex_24 : decode cX4_addVertex 24 = .ok (.invokevirtual 99, 3) := by decide +kernel
theorem dX4_addVertex_27 : decode cX4_addVertex 27 = .ok (.aload_n 0, 1) := by decide +kernel
theorem dX4_addVertex_28 : decode cX4_addVertex 28 = .ok (.getfield 39, 3) := by decide +kernel
theorem dX4_addVertex_31 : decode cX4_addVertex 31 = .ok (.iconst 1, 1) := by decide +kernel
theorem dX4_addVertex_32 : decode cX4_addVertex 32 = .ok (.isub, 1) := by decide +kernel
theorem dX4_addVertex_33 : decode cX4_addVertex 33 = .ok (.ireturn, 1) := by decide +kernel
set_option maxRecDepth 20000 in
theorem ggX4_addVertices_X4_goes : GoodIn wsX4_addVertices wsX4_goes := goodIn_r _ [6, 7, 21, 22, 23, 24, 25, 26, 27, 28, 29, 30, 31, 32, 33, 34, 35, 36, 37] (by decide +kernel) (by decide +kernel)
set_option maxRecDepth 20000 in
theorem gX4_addVertices_X4_goes : GoodIn wsX4_addVertices (wsV RX4 95 RX4 yX4_goes wsX4_goes) := goodIn_app (goodIn_of _ (by decide +kernel)) ggX4_addVertices_X4_goes
set_option maxRecDepth 20000 in
theorem ggX4_addVertices_X4_adds : GoodIn wsX4_addVertices wsX4_adds := goodIn_r _ [11, 12, 1, 13, 14, 15, 16, 17, 18, 19, 5, 20, 21, 22, 23, 24, 25, 26, 27, 28, 29, 30, 31, 32, 33, 34, 35, 36, 37] (by decide +kernel) (by decide +kernel)
set_option maxRecDepth 20000 in
theorem gX4_addVertices_X4_adds : GoodIn wsX4_addVertices (wsV RX4 99 RX4 yX4_adds wsX4_adds) := goodIn_app (goodIn_of _ (by decide +kernel)) ggX4_addVertices_X4_adds
theorem dX4_addVertices_0 : decode cX4_addVertices 0 = .ok (.aload_n 0, 1) := by decide +kernel
theorem dX4_addVertices_1 : decode cX4_addVertices 1 = .ok (.iload_n 1, 1) := by decide +kernel
theorem dX4_addVertices_2 : decode cX4_addVertices 2 = .ok (.iconst 1, 1) := by decide +kernel
theorem dX4_addVertices_3 : decode cX4_addVertices 3 = .ok (.if_icmp .lt 9, 3) := by decide +kernel
theorem dX4_addVertices_6 : decode cX4_addVertices 6 = .ok (.iload_n 1, 1) := by decide +kernel
theorem dX4_addVertices_7 : decode cX4_addVertices 7 = .ok (.bipush 48, 2) := by decide +kernel
theorem dX4_addVertices_9 : decode cX4_addVertices 9 = .ok (.if_icmp .le 7, 3) := by decide +kernel
theorem dX4_addVertices_12 : decode cX4_addVertices 12 = .ok (.iconst 1, 1) := by decide +kernel
theorem dX4_addVertices_13 : decode cX4_addVertices 13 = .ok (.goto 19, 3) := by decide +kernel
theorem dX4_addVertices_16 : decode cX4_addVertices 16 = .ok (.iload_n 1, 1) := by decide +kernel
theorem dX4_addVertices_17 : decode cX4_addVertices 17 = .ok (.bipush 48, 2) := by decide +kernel
theorem dX4_addVertices_19 : decode cX4_addVertices 19 = .ok (.aload_n 0, 1) := by decide +kernel
theorem dX4_addVertices_20 : decode cX4_addVertices 20 = .ok (.getfield 39, 3) := by decide +kernel
theorem dX4_addVertices_23 : decode cX4_addVertices 23 = .ok (.isub, 1) := by decide +kernel
theorem dX4_addVertices_24 : decode cX4_addVertices 24 = .ok (.if_icmp .le 7, 3) := by decide +kernel
theorem dX4_addVertices_27 : decode cX4_addVertices 27 = .ok (.iconst 2, 1) := by decide +kernel
theorem dX4_addVertices_28 : decode cX4_addVertices 28 = .ok (.goto 4, 3) := by decide +kernel
theorem dX4_addVertices_31 : decode cX4_addVertices 31 = .ok (.iconst 0, 1) := by decide +kernel
theorem dX4_addVertices_32 : decode cX4_addVertices 32 = .ok (.invokevirtual 95, 3) := by decide +kernel
theorem dX4_addVertices_35 : decode cX4_addVertices 35 = .ok (.ifCond .ne 5, 3) := by decide +kernel
theorem dX4_addVertices_38 : decode cX4_addVertices 38 = .ok (.iconst 0, 1) := by decide +kernel
theorem dX4_addVertices_39 : decode cX4_addVertices 39 = .ok (.ireturn, 1) := by decide +kernel
theorem dX4_addVertices_40 : decode cX4_addVertices 40 = .ok (.iconst 0, 1) := by decide +kernel
theorem dX4_addVertices_41 : decode cX4_addVertices 41 = .ok (.istore_n 2, 1) := by decide +kernel
theorem dX4_addVertices_42 : decode cX4_addVertices 42 = .ok (.iload_n 2, 1) := by decide +kernel
theorem dX4_addVertices_43 : decode cX4_addVertices 43 = .ok (.iload_n 1, 1) := by decide +kernel
theorem dX4_addVertices_44 : decode cX4_addVertices 44 = .ok (.if_icmp .ge 13, 3) := by decide +kernel
theorem dX4_addVertices_47 : decode cX4_addVertices 47 = .ok (.aload_n 0, 1) := by decide +kernel
theorem dX4_addVertices_48 : decode cX4_addVertices 48 = .ok (.invokevirtual 99, 3) := by decide +kernel
theorem dX4_addVertices_51 : decode cX4_addVertices 51 = .ok (.iinc 2 1, 3) := by decide +kernel
theorem dX4_addVertices_54 : decode cX4_addVertices 54 = .ok (.goto (-12), 3) := by decide +kernel
theorem dX4_addVertices_57 : decode cX4_addVertices 57 = .ok (.aload_n 0, 1) := by decide +kernel
theorem dX4_addVertices_58 : decode cX4_addVertices 58 = .ok (.getfield 39, 3) := by decide +kernel
theorem dX4_addVertices_61 : decode cX4_addVertices 61 = .ok (.ireturn, 1) := by decide +kernel
set_option maxRecDepth 20000 in
theorem ggX4_extendsBy_X4_counts : GoodIn wsX4_extendsBy wsX4_counts := goodIn_r _ [7, 8, 9, 10, 42, 43, 44, 45, 46, 47, 48, 49, 50, 51, 52, 53, 54, 55, 56, 57, 58] (by decide +kernel) (by decide +kernel)
set_option maxRecDepth 20000 in
theorem gX4_extendsBy_X4_counts : GoodIn wsX4_extendsBy (wsV RX4 78 RX4 yX4_counts wsX4_counts) := goodIn_app (goodIn_of _ (by decide +kernel)) ggX4_extendsBy_X4_counts
set_option maxRecDepth 20000 in
theorem ggX4_extendsBy_X4_at : GoodIn wsX4_extendsBy wsX4_at := goodIn_r _ [13] (by decide +kernel) (by decide +kernel)
set_option maxRecDepth 20000 in
theorem gX4_extendsBy_X4_at : GoodIn wsX4_extendsBy (va_wsS RX4 42 yX4_at wsX4_at) := goodIn_app (goodIn_of _ (by decide +kernel)) ggX4_extendsBy_X4_at
set_option maxRecDepth 20000 in
theorem ggX4_extendsBy_X4_searches : GoodIn wsX4_extendsBy wsX4_searches := goodIn_r _ [17, 18, 19, 20, 8, 9, 2, 21, 10, 1, 22, 23, 24, 6, 25, 26, 27, 28, 29, 30, 11, 12, 13, 31, 32, 33, 34, 35, 42, 43, 44, 45, 46, 47, 48, 49, 50, 51, 52, 53, 54, 55, 56, 57, 58] (by decide +kernel) (by decide +kernel)
set_option maxRecDepth 20000 in
theorem gX4_extendsBy_X4_searches : GoodIn wsX4_extendsBy (wsV RX4 81 RX4 yX4_searches wsX4_searches) := goodIn_app (goodIn_of _ (by decide +kernel)) ggX4_extendsBy_X4_searches
set_option maxRecDepth 20000 in
theorem ggX4_extendsBy_X4_keepsCounts : GoodIn wsX4_extendsBy wsX4_keepsCounts := goodIn_r _ [39, 9, 40, 10, 41, 42, 43, 44, 45, 46, 47, 48, 49, 50, 51, 52, 53, 54, 55, 56, 57, 58] (by decide +kernel) (by decide +kernel)
set_option maxRecDepth 20000 in
theorem gX4_extendsBy_X4_keepsCounts : GoodIn wsX4_extendsBy (wsV RX4 102 RX4 yX4_keepsCounts wsX4_keepsCounts) := goodIn_app (goodIn_of _ (by decide +kernel)) ggX4_extendsBy_X4_keepsCounts
theorem dX4_extendsBy_0 : decode cX4_extendsBy 0 = .ok (.aload_n 0, 1) := by decide +kernel
theorem dX4_extendsBy_1 : decode cX4_extendsBy 1 = .ok (.invokevirtual 78, 3) := by decide +kernel
theorem dX4_extendsBy_4 : decode cX4_extendsBy 4 = .ok (.iconst 0, 1) := by decide +kernel
theorem dX4_extendsBy_5 : decode cX4_extendsBy 5 = .ok (.istore_n 3, 1) := by decide +kernel
theorem dX4_extendsBy_6 : decode cX4_extendsBy 6 = .ok (.iload_n 3, 1) := by decide +kernel
theorem dX4_extendsBy_7 : decode cX4_extendsBy 7 = .ok (.aload_n 0, 1) := by decide +kernel
theorem dX4_extendsBy_8 : decode cX4_extendsBy 8 = .ok (.getfield 39, 3) := by decide +kernel
theorem dX4_extendsBy_11 : decode cX4_extendsBy 11 = .ok (.if_icmp .ge 71, 3) := by decide +kernel
theorem dX4_extendsBy_14 : decode cX4_extendsBy 14 = .ok (.aload_n 0, 1) := by decide +kernel
theorem dX4_extendsBy_15 : decode cX4_extendsBy 15 = .ok (.getfield 13, 3) := by decide +kernel
theorem dX4_extendsBy_18 : decode cX4_extendsBy 18 = .ok (.iconst 0, 1) := by decide +kernel
theorem dX4_extendsBy_19 : decode cX4_extendsBy 19 = .ok (.iload_n 1, 1) := by decide +kernel
theorem dX4_extendsBy_20 : decode cX4_extendsBy 20 = .ok (.iload_n 3, 1) := by decide +kernel
theorem dX4_extendsBy_21 : decode cX4_extendsBy 21 = .ok (.invokestatic 42, 3) := by decide +kernel
theorem dX4_extendsBy_24 : decode cX4_extendsBy 24 = .ok (.iaload, 1) := by decide +kernel
theorem dX4_extendsBy_25 : decode cX4_extendsBy 25 = .ok (.istore 4, 2) := by decide +kernel
theorem dX4_extendsBy_27 : decode cX4_extendsBy 27 = .ok (.aload_n 0, 1) := by decide +kernel
theorem dX4_extendsBy_28 : decode cX4_extendsBy 28 = .ok (.getfield 13, 3) := by decide +kernel
theorem dX4_extendsBy_31 : decode cX4_extendsBy 31 = .ok (.iconst 0, 1) := by decide +kernel
theorem dX4_extendsBy_32 : decode cX4_extendsBy 32 = .ok (.iload_n 2, 1) := by decide +kernel
theorem dX4_extendsBy_33 : decode cX4_extendsBy 33 = .ok (.iload_n 3, 1) := by decide +kernel
theorem dX4_extendsBy_34 : decode cX4_extendsBy 34 = .ok (.invokestatic 42, 3) := by decide +kernel
theorem dX4_extendsBy_37 : decode cX4_extendsBy 37 = .ok (.iaload, 1) := by decide +kernel
theorem dX4_extendsBy_38 : decode cX4_extendsBy 38 = .ok (.istore 5, 2) := by decide +kernel
theorem dX4_extendsBy_40 : decode cX4_extendsBy 40 = .ok (.iload 4, 2) := by decide +kernel
theorem dX4_extendsBy_42 : decode cX4_extendsBy 42 = .ok (.iconst (-1), 1) := by decide +kernel
theorem dX4_extendsBy_43 : decode cX4_extendsBy 43 = .ok (.if_icmp .eq 15, 3) := by decide +kernel
theorem dX4_extendsBy_46 : decode cX4_extendsBy 46 = .ok (.aload_n 0, 1) := by decide +kernel
theorem dX4_extendsBy_47 : decode cX4_extendsBy 47 = .ok (.iconst 0, 1) := by decide +kernel
theorem dX4_extendsBy_48 : decode cX4_extendsBy 48 = .ok (.iload_n 3, 1) := by decide +kernel
theorem dX4_extendsBy_49 : decode cX4_extendsBy 49 = .ok (.iload_n 2, 1) := by decide +kernel
theorem dX4_extendsBy_50 : decode cX4_extendsBy 50 = .ok (.iload 4, 2) := by decide +kernel
theorem dX4_extendsBy_52 : decode cX4_extendsBy 52 = .ok (.iconst 1, 1) := by decide +kernel
theorem dX4_extendsBy_53 : decode cX4_extendsBy 53 = .ok (.iadd, 1) := by decide +kernel
theorem dX4_extendsBy_54 : decode cX4_extendsBy 54 = .ok (.iload_n 1, 1) := by decide +kernel
theorem dX4_extendsBy_55 : decode cX4_extendsBy 55 = .ok (.invokevirtual 81, 3) := by decide +kernel
theorem dX4_extendsBy_58 : decode cX4_extendsBy 58 = .ok (.iload 5, 2) := by decide +kernel
theorem dX4_extendsBy_60 : decode cX4_extendsBy 60 = .ok (.iconst (-1), 1) := by decide +kernel
theorem dX4_extendsBy_61 : decode cX4_extendsBy 61 = .ok (.if_icmp .eq 15, 3) := by decide +kernel
theorem dX4_extendsBy_64 : decode cX4_extendsBy 64 = .ok (.aload_n 0, 1) := by decide +kernel
theorem dX4_extendsBy_65 : decode cX4_extendsBy 65 = .ok (.iconst 0, 1) := by decide +kernel
theorem dX4_extendsBy_66 : decode cX4_extendsBy 66 = .ok (.iload_n 3, 1) := by decide +kernel
theorem dX4_extendsBy_67 : decode cX4_extendsBy 67 = .ok (.iload_n 1, 1) := by decide +kernel
theorem dX4_extendsBy_68 : decode cX4_extendsBy 68 = .ok (.iload 5, 2) := by decide +kernel
theorem dX4_extendsBy_70 : decode cX4_extendsBy 70 = .ok (.iconst 1, 1) := by decide +kernel
theorem dX4_extendsBy_71 : decode cX4_extendsBy 71 = .ok (.iadd, 1) := by decide +kernel
theorem dX4_extendsBy_72 : decode cX4_extendsBy 72 = .ok (.iload_n 2, 1) := by decide +kernel
theorem dX4_extendsBy_73 : decode cX4_extendsBy 73 = .ok (.invokevirtual 81, 3) := by decide +kernel
theorem dX4_extendsBy_76 : decode cX4_extendsBy 76 = .ok (.iinc 3 1, 3) := by decide +kernel
theorem dX4_extendsBy_79 : decode cX4_extendsBy 79 = .ok (.goto (-73), 3) := by decide +kernel
theorem dX4_extendsBy_82 : decode cX4_extendsBy 82 = .ok (.aload_n 0, 1) := by decide +kernel
theorem dX4_extendsBy_83 : decode cX4_extendsBy 83 = .ok (.invokevirtual 102, 3) := by decide +kernel
theorem dX4_extendsBy_86 : decode cX4_extendsBy 86 = .ok (.return_, 1) := by decide +kernel
set_option maxRecDepth 20000 in
theorem ggX4_addEdge_X4_isVertex : GoodIn wsX4_addEdge wsX4_isVertex := goodIn_r _ [9, 10, 57, 58, 59, 60, 61, 62, 63, 64, 65, 66, 67, 68, 69, 70, 71, 72, 73] (by decide +kernel) (by decide +kernel)
set_option maxRecDepth 20000 in
theorem gX4_addEdge_X4_isVertex : GoodIn wsX4_addEdge (wsV RX4 105 RX4 yX4_isVertex wsX4_isVertex) := goodIn_app (goodIn_of _ (by decide +kernel)) ggX4_addEdge_X4_isVertex
set_option maxRecDepth 20000 in
theorem ggX4_addEdge_X4_isEdge : GoodIn wsX4_addEdge wsX4_isEdge := goodIn_r _ [14, 1, 57, 58, 59, 60, 61, 62, 63, 64, 65, 66, 67, 68, 69, 70, 71, 72, 73] (by decide +kernel) (by decide +kernel)
set_option maxRecDepth 20000 in
theorem gX4_addEdge_X4_isEdge : GoodIn wsX4_addEdge (wsV RX4 63 RX4 yX4_isEdge wsX4_isEdge) := goodIn_app (goodIn_of _ (by decide +kernel)) ggX4_addEdge_X4_isEdge
set_option maxRecDepth 20000 in
theorem ggX4_addEdge_X4_goes : GoodIn wsX4_addEdge wsX4_goes := goodIn_r _ [18, 19, 57, 58, 59, 60, 61, 62, 63, 64, 65, 66, 67, 68, 69, 70, 71, 72, 73] (by decide +kernel) (by decide +kernel)
set_option maxRecDepth 20000 in
theorem gX4_addEdge_X4_goes : GoodIn wsX4_addEdge (wsV RX4 95 RX4 yX4_goes wsX4_goes) := goodIn_app (goodIn_of _ (by decide +kernel)) ggX4_addEdge_X4_goes
set_option maxRecDepth 20000 in
theorem ggX4_addEdge_X4_extendsBy : GoodIn wsX4_addEdge wsX4_extendsBy := goodIn_r _ [23, 10, 24, 25, 26, 27, 8, 28, 4, 29, 30, 31, 32, 33, 34, 35, 36, 37, 38, 39, 40, 41, 42, 43, 44, 45, 46, 47, 48, 49, 50, 11, 12, 13, 14, 1, 51, 52, 53, 54, 55, 56, 57, 58, 59, 60, 61, 62, 63, 64, 65, 66, 67, 68, 69, 70, 71, 72, 73] (by decide +kernel) (by decide +kernel)
set_option maxRecDepth 20000 in
theorem gX4_addEdge_X4_extendsBy : GoodIn wsX4_addEdge (wsV RX4 111 RX4 yX4_extendsBy wsX4_extendsBy) := goodIn_app (goodIn_of _ (by decide +kernel)) ggX4_addEdge_X4_extendsBy
theorem dX4_addEdge_0 : decode cX4_addEdge 0 = .ok (.aload_n 0, 1) := by decide +kernel
theorem dX4_addEdge_1 : decode cX4_addEdge 1 = .ok (.aload_n 0, 1) := by decide +kernel
theorem dX4_addEdge_2 : decode cX4_addEdge 2 = .ok (.iload_n 1, 1) := by decide +kernel
theorem dX4_addEdge_3 : decode cX4_addEdge 3 = .ok (.invokevirtual 105, 3) := by decide +kernel
theorem dX4_addEdge_6 : decode cX4_addEdge 6 = .ok (.ifCond .eq 11, 3) := by decide +kernel
theorem dX4_addEdge_9 : decode cX4_addEdge 9 = .ok (.aload_n 0, 1) := by decide +kernel
theorem dX4_addEdge_10 : decode cX4_addEdge 10 = .ok (.iload_n 2, 1) := by decide +kernel
theorem dX4_addEdge_11 : decode cX4_addEdge 11 = .ok (.invokevirtual 105, 3) := by decide +kernel
theorem dX4_addEdge_14 : decode cX4_addEdge 14 = .ok (.ifCond .ne 7, 3) := by decide +kernel
theorem dX4_addEdge_17 : decode cX4_addEdge 17 = .ok (.iconst 1, 1) := by decide +kernel
theorem dX4_addEdge_18 : decode cX4_addEdge 18 = .ok (.goto 22, 3) := by decide +kernel
theorem dX4_addEdge_21 : decode cX4_addEdge 21 = .ok (.iload_n 1, 1) := by decide +kernel
theorem dX4_addEdge_22 : decode cX4_addEdge 22 = .ok (.iload_n 2, 1) := by decide +kernel
theorem dX4_addEdge_23 : decode cX4_addEdge 23 = .ok (.if_icmp .eq 12, 3) := by decide +kernel
theorem dX4_addEdge_26 : decode cX4_addEdge 26 = .ok (.aload_n 0, 1) := by decide +kernel
theorem dX4_addEdge_27 : decode cX4_addEdge 27 = .ok (.iload_n 1, 1) := by decide +kernel
theorem dX4_addEdge_28 : decode cX4_addEdge 28 = .ok (.iload_n 2, 1) := by decide +kernel
theorem dX4_addEdge_29 : decode cX4_addEdge 29 = .ok (.invokevirtual 63, 3) := by decide +kernel
theorem dX4_addEdge_32 : decode cX4_addEdge 32 = .ok (.ifCond .eq 7, 3) := by decide +kernel
theorem dX4_addEdge_35 : decode cX4_addEdge 35 = .ok (.iconst 2, 1) := by decide +kernel
theorem dX4_addEdge_36 : decode cX4_addEdge 36 = .ok (.goto 4, 3) := by decide +kernel
theorem dX4_addEdge_39 : decode cX4_addEdge 39 = .ok (.iconst 0, 1) := by decide +kernel
theorem dX4_addEdge_40 : decode cX4_addEdge 40 = .ok (.invokevirtual 95, 3) := by decide +kernel
theorem dX4_addEdge_43 : decode cX4_addEdge 43 = .ok (.ifCond .ne 5, 3) := by decide +kernel
theorem dX4_addEdge_46 : decode cX4_addEdge 46 = .ok (.iconst 0, 1) := by decide +kernel
theorem dX4_addEdge_47 : decode cX4_addEdge 47 = .ok (.ireturn, 1) := by decide +kernel
theorem dX4_addEdge_48 : decode cX4_addEdge 48 = .ok (.aload_n 0, 1) := by decide +kernel
theorem dX4_addEdge_49 : decode cX4_addEdge 49 = .ok (.getfield 7, 3) := by decide +kernel
theorem dX4_addEdge_52 : decode cX4_addEdge 52 = .ok (.iload_n 1, 1) := by decide +kernel
theorem dX4_addEdge_53 : decode cX4_addEdge 53 = .ok (.dup2, 1) := by decide +kernel
theorem dX4_addEdge_54 : decode cX4_addEdge 54 = .ok (.laload, 1) := by decide +kernel
theorem dX4_addEdge_55 : decode cX4_addEdge 55 = .ok (.lconst 1, 1) := by decide +kernel
theorem dX4_addEdge_56 : decode cX4_addEdge 56 = .ok (.iload_n 2, 1) := by decide +kernel
theorem dX4_addEdge_57 : decode cX4_addEdge 57 = .ok (.lshl, 1) := by decide +kernel
theorem dX4_addEdge_58 : decode cX4_addEdge 58 = .ok (.lor, 1) := by decide +kernel
theorem dX4_addEdge_59 : decode cX4_addEdge 59 = .ok (.lastore, 1) := by decide +kernel
theorem dX4_addEdge_60 : decode cX4_addEdge 60 = .ok (.aload_n 0, 1) := by decide +kernel
theorem dX4_addEdge_61 : decode cX4_addEdge 61 = .ok (.getfield 7, 3) := by decide +kernel
theorem dX4_addEdge_64 : decode cX4_addEdge 64 = .ok (.iload_n 2, 1) := by decide +kernel
theorem dX4_addEdge_65 : decode cX4_addEdge 65 = .ok (.dup2, 1) := by decide +kernel
theorem dX4_addEdge_66 : decode cX4_addEdge 66 = .ok (.laload, 1) := by decide +kernel
theorem dX4_addEdge_67 : decode cX4_addEdge 67 = .ok (.lconst 1, 1) := by decide +kernel
theorem dX4_addEdge_68 : decode cX4_addEdge 68 = .ok (.iload_n 1, 1) := by decide +kernel
theorem dX4_addEdge_69 : decode cX4_addEdge 69 = .ok (.lshl, 1) := by decide +kernel
theorem dX4_addEdge_70 : decode cX4_addEdge 70 = .ok (.lor, 1) := by decide +kernel
theorem dX4_addEdge_71 : decode cX4_addEdge 71 = .ok (.lastore, 1) := by decide +kernel
theorem dX4_addEdge_72 : decode cX4_addEdge 72 = .ok (.aload_n 0, 1) := by decide +kernel
theorem dX4_addEdge_73 : decode cX4_addEdge 73 = .ok (.dup, 1) := by decide +kernel
theorem dX4_addEdge_74 : decode cX4_addEdge 74 = .ok (.getfield 108, 3) := by decide +kernel
theorem dX4_addEdge_77 : decode cX4_addEdge 77 = .ok (.iconst 1, 1) := by decide +kernel
theorem dX4_addEdge_78 : decode cX4_addEdge 78 = .ok (.iadd, 1) := by decide +kernel
theorem dX4_addEdge_79 : decode cX4_addEdge 79 = .ok (.putfield 108, 3) := by decide +kernel
theorem dX4_addEdge_82 : decode cX4_addEdge 82 = .ok (.aload_n 0, 1) := by decide +kernel
theorem dX4_addEdge_83 : decode cX4_addEdge 83 = .ok (.getfield 91, 3) := by decide +kernel
theorem dX4_addEdge_86 : decode cX4_addEdge 86 = .ok (.ifCond .ne 5, 3) := by decide +kernel
theorem dX4_addEdge_89 : decode cX4_addEdge 89 = .ok (.iconst 0, 1) := by decide +kernel
theorem dX4_addEdge_90 : decode cX4_addEdge 90 = .ok (.ireturn, 1) := by decide +kernel
theorem dX4_addEdge_91 : decode cX4_addEdge 91 = .ok (.aload_n 0, 1) := by decide +kernel
theorem dX4_addEdge_92 : decode cX4_addEdge 92 = .ok (.iload_n 1, 1) := by decide +kernel
theorem dX4_addEdge_93 : decode cX4_addEdge 93 = .ok (.iload_n 2, 1) := by decide +kernel
theorem dX4_addEdge_94 : decode cX4_addEdge 94 = .ok (.invokevirtual 111, 3) := by decide +kernel
theorem dX4_addEdge_97 : decode cX4_addEdge 97 = .ok (.aload_n 0, 1) := by decide +kernel
theorem dX4_addEdge_98 : decode cX4_addEdge 98 = .ok (.getfield 54, 3) := by decide +kernel
theorem dX4_addEdge_101 : decode cX4_addEdge 101 = .ok (.ireturn, 1) := by decide +kernel
theorem dX4_clear_0 : decode cX4_clear 0 = .ok (.aload_n 0, 1) := by decide +kernel
theorem dX4_clear_1 : decode cX4_clear 1 = .ok (.iconst 0, 1) := by decide +kernel
theorem dX4_clear_2 : decode cX4_clear 2 = .ok (.putfield 35, 3) := by decide +kernel
theorem dX4_clear_5 : decode cX4_clear 5 = .ok (.aload_n 0, 1) := by decide +kernel
theorem dX4_clear_6 : decode cX4_clear 6 = .ok (.getfield 108, 3) := by decide +kernel
theorem dX4_clear_9 : decode cX4_clear 9 = .ok (.istore_n 1, 1) := by decide +kernel
theorem dX4_clear_10 : decode cX4_clear 10 = .ok (.iconst 0, 1) := by decide +kernel
theorem dX4_clear_11 : decode cX4_clear 11 = .ok (.istore_n 2, 1) := by decide +kernel
theorem dX4_clear_12 : decode cX4_clear 12 = .ok (.iload_n 2, 1) := by decide +kernel
theorem dX4_clear_13 : decode cX4_clear 13 = .ok (.aload_n 0, 1) := by decide +kernel
theorem dX4_clear_14 : decode cX4_clear 14 = .ok (.getfield 39, 3) := by decide +kernel
theorem dX4_clear_17 : decode cX4_clear 17 = .ok (.if_icmp .ge 16, 3) := by decide +kernel
theorem dX4_clear_20 : decode cX4_clear 20 = .ok (.aload_n 0, 1) := by decide +kernel
theorem dX4_clear_21 : decode cX4_clear 21 = .ok (.getfield 7, 3) := by decide +kernel
theorem dX4_clear_24 : decode cX4_clear 24 = .ok (.iload_n 2, 1) := by decide +kernel
theorem dX4_clear_25 : decode cX4_clear 25 = .ok (.lconst 0, 1) := by decide +kernel
theorem dX4_clear_26 : decode cX4_clear 26 = .ok (.lastore, 1) := by decide +kernel
theorem dX4_clear_27 : decode cX4_clear 27 = .ok (.iinc 2 1, 3) := by decide +kernel
theorem dX4_clear_30 : decode cX4_clear 30 = .ok (.goto (-18), 3) := by decide +kernel
theorem dX4_clear_33 : decode cX4_clear 33 = .ok (.aload_n 0, 1) := by decide +kernel
theorem dX4_clear_34 : decode cX4_clear 34 = .ok (.iconst 0, 1) := by decide +kernel
theorem dX4_clear_35 : decode cX4_clear 35 = .ok (.putfield 108, 3) := by decide +kernel
theorem dX4_clear_38 : decode cX4_clear 38 = .ok (.aload_n 0, 1) := by decide +kernel
theorem dX4_clear_39 : decode cX4_clear 39 = .ok (.iconst 0, 1) := by decide +kernel
theorem dX4_clear_40 : decode cX4_clear 40 = .ok (.putfield 91, 3) := by decide +kernel
theorem dX4_clear_43 : decode cX4_clear 43 = .ok (.aload_n 0, 1) := by decide +kernel
theorem dX4_clear_44 : decode cX4_clear 44 = .ok (.iconst 0, 1) := by decide +kernel
theorem dX4_clear_45 : decode cX4_clear 45 = .ok (.putfield 85, 3) := by decide +kernel
theorem dX4_clear_48 : decode cX4_clear 48 = .ok (.aload_n 0, 1) := by decide +kernel
theorem dX4_clear_49 : decode cX4_clear 49 = .ok (.iconst 0, 1) := by decide +kernel
theorem dX4_clear_50 : decode cX4_clear 50 = .ok (.putfield 88, 3) := by decide +kernel
theorem dX4_clear_53 : decode cX4_clear 53 = .ok (.iload_n 1, 1) := by decide +kernel
theorem dX4_clear_54 : decode cX4_clear 54 = .ok (.ireturn, 1) := by decide +kernel
theorem dX4_vertices_0 : decode cX4_vertices 0 = .ok (.aload_n 0, 1) := by decide +kernel
theorem dX4_vertices_1 : decode cX4_vertices 1 = .ok (.iconst 0, 1) := by decide +kernel
theorem dX4_vertices_2 : decode cX4_vertices 2 = .ok (.putfield 35, 3) := by decide +kernel
theorem dX4_vertices_5 : decode cX4_vertices 5 = .ok (.aload_n 0, 1) := by decide +kernel
theorem dX4_vertices_6 : decode cX4_vertices 6 = .ok (.getfield 39, 3) := by decide +kernel
theorem dX4_vertices_9 : decode cX4_vertices 9 = .ok (.ireturn, 1) := by decide +kernel
theorem dX4_edges_0 : decode cX4_edges 0 = .ok (.aload_n 0, 1) := by decide +kernel
theorem dX4_edges_1 : decode cX4_edges 1 = .ok (.iconst 0, 1) := by decide +kernel
theorem dX4_edges_2 : decode cX4_edges 2 = .ok (.putfield 35, 3) := by decide +kernel
theorem dX4_edges_5 : decode cX4_edges 5 = .ok (.aload_n 0, 1) := by decide +kernel
theorem dX4_edges_6 : decode cX4_edges 6 = .ok (.getfield 108, 3) := by decide +kernel
theorem dX4_edges_9 : decode cX4_edges 9 = .ok (.ireturn, 1) := by decide +kernel
set_option maxRecDepth 20000 in
theorem ggX4_neighbours_X4_isVertex : GoodIn wsX4_neighbours wsX4_isVertex := goodIn_r _ [6, 7, 13, 14, 15, 16, 17, 18, 19, 20, 21, 22, 23, 24, 25, 26, 27, 28, 29] (by decide +kernel) (by decide +kernel)
set_option maxRecDepth 20000 in
theorem gX4_neighbours_X4_isVertex : GoodIn wsX4_neighbours (wsV RX4 105 RX4 yX4_isVertex wsX4_isVertex) := goodIn_app (goodIn_of _ (by decide +kernel)) ggX4_neighbours_X4_isVertex
set_option maxRecDepth 20000 in
theorem ggX4_neighbours_X4_goes : GoodIn wsX4_neighbours wsX4_goes := goodIn_r _ [11, 12, 13, 14, 15, 16, 17, 18, 19, 20, 21, 22, 23, 24, 25, 26, 27, 28, 29] (by decide +kernel) (by decide +kernel)
set_option maxRecDepth 20000 in
theorem gX4_neighbours_X4_goes : GoodIn wsX4_neighbours (wsV RX4 95 RX4 yX4_goes wsX4_goes) := goodIn_app (goodIn_of _ (by decide +kernel)) ggX4_neighbours_X4_goes
theorem dX4_neighbours_0 : decode cX4_neighbours 0 = .ok (.aload_n 0, 1) := by decide +kernel
theorem dX4_neighbours_1 : decode cX4_neighbours 1 = .ok (.aload_n 0, 1) := by decide +kernel
theorem dX4_neighbours_2 : decode cX4_neighbours 2 = .ok (.iload_n 1, 1) := by decide +kernel
theorem dX4_neighbours_3 : decode cX4_neighbours 3 = .ok (.invokevirtual 105, 3) := by decide +kernel
theorem dX4_neighbours_6 : decode cX4_neighbours 6 = .ok (.ifCond .eq 7, 3) := by decide +kernel
theorem dX4_neighbours_9 : decode cX4_neighbours 9 = .ok (.iconst 0, 1) := by decide +kernel
theorem dX4_neighbours_10 : decode cX4_neighbours 10 = .ok (.goto 4, 3) := by decide +kernel
theorem dX4_neighbours_13 : decode cX4_neighbours 13 = .ok (.iconst 1, 1) := by decide +kernel
theorem dX4_neighbours_14 : decode cX4_neighbours 14 = .ok (.invokevirtual 95, 3) := by decide +kernel
theorem dX4_neighbours_17 : decode cX4_neighbours 17 = .ok (.ifCond .eq 12, 3) := by decide +kernel
theorem dX4_neighbours_20 : decode cX4_neighbours 20 = .ok (.aload_n 0, 1) := by decide +kernel
theorem dX4_neighbours_21 : decode cX4_neighbours 21 = .ok (.getfield 7, 3) := by decide +kernel
theorem dX4_neighbours_24 : decode cX4_neighbours 24 = .ok (.iload_n 1, 1) := by decide +kernel
theorem dX4_neighbours_25 : decode cX4_neighbours 25 = .ok (.laload, 1) := by decide +kernel
theorem dX4_neighbours_26 : decode cX4_neighbours 26 = .ok (.goto 4, 3) := by decide +kernel
theorem dX4_neighbours_29 : decode cX4_neighbours 29 = .ok (.lconst 0, 1) := by decide +kernel
theorem dX4_neighbours_30 : decode cX4_neighbours 30 = .ok (.lreturn, 1) := by decide +kernel
set_option maxRecDepth 20000 in
theorem ggX4_build_X4_builds : GoodIn wsX4_build wsX4_builds := goodIn_r _ [8, 9, 10, 11, 12, 13, 7, 14, 15, 16, 17, 18, 19, 20, 21, 22, 23, 24, 25, 26, 27, 28, 29, 30, 31, 32, 33, 34, 3, 35, 36, 37, 38, 39, 40, 41, 42, 43, 44, 45, 46, 47, 48, 49, 50, 51, 52, 53, 54, 61, 62, 63, 64, 65, 66, 67, 68, 69, 70, 71, 72, 73, 74, 75, 76, 77] (by decide +kernel) (by decide +kernel)
set_option maxRecDepth 20000 in
theorem gX4_build_X4_builds : GoodIn wsX4_build (wsV RX4 115 RX4 yX4_builds wsX4_builds) := goodIn_app (goodIn_of _ (by decide +kernel)) ggX4_build_X4_builds
set_option maxRecDepth 20000 in
theorem ggX4_build_X4_keepsCounts : GoodIn wsX4_build wsX4_keepsCounts := goodIn_r _ [58, 35, 59, 36, 60, 61, 62, 63, 64, 65, 66, 67, 68, 69, 70, 71, 72, 73, 74, 75, 76, 77] (by decide +kernel) (by decide +kernel)
set_option maxRecDepth 20000 in
theorem gX4_build_X4_keepsCounts : GoodIn wsX4_build (wsV RX4 102 RX4 yX4_keepsCounts wsX4_keepsCounts) := goodIn_app (goodIn_of _ (by decide +kernel)) ggX4_build_X4_keepsCounts
theorem dX4_build_0 : decode cX4_build 0 = .ok (.aload_n 0, 1) := by decide +kernel
theorem dX4_build_1 : decode cX4_build 1 = .ok (.iconst 0, 1) := by decide +kernel
theorem dX4_build_2 : decode cX4_build 2 = .ok (.putfield 35, 3) := by decide +kernel
theorem dX4_build_5 : decode cX4_build 5 = .ok (.aload_n 0, 1) := by decide +kernel
theorem dX4_build_6 : decode cX4_build 6 = .ok (.iconst 0, 1) := by decide +kernel
theorem dX4_build_7 : decode cX4_build 7 = .ok (.invokevirtual 115, 3) := by decide +kernel
theorem dX4_build_10 : decode cX4_build 10 = .ok (.aload_n 0, 1) := by decide +kernel
theorem dX4_build_11 : decode cX4_build 11 = .ok (.invokevirtual 102, 3) := by decide +kernel
theorem dX4_build_14 : decode cX4_build 14 = .ok (.aload_n 0, 1) := by decide +kernel
theorem dX4_build_15 : decode cX4_build 15 = .ok (.iconst 1, 1) := by decide +kernel
theorem dX4_build_16 : decode cX4_build 16 = .ok (.putfield 91, 3) := by decide +kernel
theorem dX4_build_19 : decode cX4_build 19 = .ok (.aload_n 0, 1) := by decide +kernel
theorem dX4_build_20 : decode cX4_build 20 = .ok (.getfield 54, 3) := by decide +kernel
theorem dX4_build_23 : decode cX4_build 23 = .ok (.ireturn, 1) := by decide +kernel
theorem dX4_isBuilt_0 : decode cX4_isBuilt 0 = .ok (.aload_n 0, 1) := by decide +kernel
theorem dX4_isBuilt_1 : decode cX4_isBuilt 1 = .ok (.iconst 0, 1) := by decide +kernel
theorem dX4_isBuilt_2 : decode cX4_isBuilt 2 = .ok (.putfield 35, 3) := by decide +kernel
theorem dX4_isBuilt_5 : decode cX4_isBuilt 5 = .ok (.aload_n 0, 1) := by decide +kernel
theorem dX4_isBuilt_6 : decode cX4_isBuilt 6 = .ok (.getfield 91, 3) := by decide +kernel
theorem dX4_isBuilt_9 : decode cX4_isBuilt 9 = .ok (.ireturn, 1) := by decide +kernel
set_option maxRecDepth 20000 in
theorem ggX4_wrong_X4_isVertex : GoodIn wsX4_wrong wsX4_isVertex := goodIn_r _ [6, 7, 8, 9, 10, 11, 12, 13, 14, 15, 16, 17, 18, 19, 20, 21, 22, 23, 24] (by decide +kernel) (by decide +kernel)
set_option maxRecDepth 20000 in
theorem gX4_wrong_X4_isVertex : GoodIn wsX4_wrong (wsV RX4 105 RX4 yX4_isVertex wsX4_isVertex) := goodIn_app (goodIn_of _ (by decide +kernel)) ggX4_wrong_X4_isVertex
theorem dX4_wrong_0 : decode cX4_wrong 0 = .ok (.aload_n 0, 1) := by decide +kernel
theorem dX4_wrong_1 : decode cX4_wrong 1 = .ok (.iload_n 1, 1) := by decide +kernel
theorem dX4_wrong_2 : decode cX4_wrong 2 = .ok (.invokevirtual 105, 3) := by decide +kernel
theorem dX4_wrong_5 : decode cX4_wrong 5 = .ok (.ifCond .eq 11, 3) := by decide +kernel
theorem dX4_wrong_8 : decode cX4_wrong 8 = .ok (.aload_n 0, 1) := by decide +kernel
theorem dX4_wrong_9 : decode cX4_wrong 9 = .ok (.iload_n 2, 1) := by decide +kernel
theorem dX4_wrong_10 : decode cX4_wrong 10 = .ok (.invokevirtual 105, 3) := by decide +kernel
theorem dX4_wrong_13 : decode cX4_wrong 13 = .ok (.ifCond .ne 7, 3) := by decide +kernel
theorem dX4_wrong_16 : decode cX4_wrong 16 = .ok (.iconst 1, 1) := by decide +kernel
theorem dX4_wrong_17 : decode cX4_wrong 17 = .ok (.goto 15, 3) := by decide +kernel
theorem dX4_wrong_20 : decode cX4_wrong 20 = .ok (.aload_n 0, 1) := by decide +kernel
theorem dX4_wrong_21 : decode cX4_wrong 21 = .ok (.getfield 91, 3) := by decide +kernel
theorem dX4_wrong_24 : decode cX4_wrong 24 = .ok (.ifCond .eq 7, 3) := by decide +kernel
theorem dX4_wrong_27 : decode cX4_wrong 27 = .ok (.iconst 0, 1) := by decide +kernel
theorem dX4_wrong_28 : decode cX4_wrong 28 = .ok (.goto 4, 3) := by decide +kernel
theorem dX4_wrong_31 : decode cX4_wrong 31 = .ok (.iconst 2, 1) := by decide +kernel
theorem dX4_wrong_32 : decode cX4_wrong 32 = .ok (.ireturn, 1) := by decide +kernel
set_option maxRecDepth 20000 in
theorem ggX4_rank_X4_wrong : GoodIn wsX4_rank wsX4_wrong := goodIn_r _ [6, 7, 8, 9, 10, 5, 11, 12, 18, 19, 20, 21, 22, 23, 24, 25, 26, 27, 28, 29, 30, 31, 32, 33, 34] (by decide +kernel) (by decide +kernel)
set_option maxRecDepth 20000 in
theorem gX4_rank_X4_wrong : GoodIn wsX4_rank (wsV RX4 118 RX4 yX4_wrong wsX4_wrong) := goodIn_app (goodIn_of _ (by decide +kernel)) ggX4_rank_X4_wrong
set_option maxRecDepth 20000 in
theorem ggX4_rank_X4_goes : GoodIn wsX4_rank wsX4_goes := goodIn_r _ [16, 17, 18, 19, 20, 21, 22, 23, 24, 25, 26, 27, 28, 29, 30, 31, 32, 33, 34] (by decide +kernel) (by decide +kernel)
set_option maxRecDepth 20000 in
theorem gX4_rank_X4_goes : GoodIn wsX4_rank (wsV RX4 95 RX4 yX4_goes wsX4_goes) := goodIn_app (goodIn_of _ (by decide +kernel)) ggX4_rank_X4_goes
theorem dX4_rank_0 : decode cX4_rank 0 = .ok (.aload_n 0, 1) := by decide +kernel
theorem dX4_rank_1 : decode cX4_rank 1 = .ok (.aload_n 0, 1) := by decide +kernel
theorem dX4_rank_2 : decode cX4_rank 2 = .ok (.iload_n 1, 1) := by decide +kernel
theorem dX4_rank_3 : decode cX4_rank 3 = .ok (.iload_n 1, 1) := by decide +kernel
theorem dX4_rank_4 : decode cX4_rank 4 = .ok (.invokevirtual 118, 3) := by decide +kernel
theorem dX4_rank_7 : decode cX4_rank 7 = .ok (.invokevirtual 95, 3) := by decide +kernel
theorem dX4_rank_10 : decode cX4_rank 10 = .ok (.ifCond .eq 12, 3) := by decide +kernel
theorem dX4_rank_13 : decode cX4_rank 13 = .ok (.aload_n 0, 1) := by decide +kernel
theorem dX4_rank_14 : decode cX4_rank 14 = .ok (.getfield 23, 3) := by decide +kernel
theorem dX4_rank_17 : decode cX4_rank 17 = .ok (.iload_n 1, 1) := by decide +kernel
theorem dX4_rank_18 : decode cX4_rank 18 = .ok (.iaload, 1) := by decide +kernel
theorem dX4_rank_19 : decode cX4_rank 19 = .ok (.goto 4, 3) := by decide +kernel
theorem dX4_rank_22 : decode cX4_rank 22 = .ok (.iconst 0, 1) := by decide +kernel
theorem dX4_rank_23 : decode cX4_rank 23 = .ok (.ireturn, 1) := by decide +kernel
set_option maxRecDepth 20000 in
theorem ggX4_size_X4_at : GoodIn wsX4_size wsX4_at := goodIn_r _ [6] (by decide +kernel) (by decide +kernel)
set_option maxRecDepth 20000 in
theorem gX4_size_X4_at : GoodIn wsX4_size (va_wsS RX4 42 yX4_at wsX4_at) := goodIn_app (goodIn_of _ (by decide +kernel)) ggX4_size_X4_at
theorem dX4_size_0 : decode cX4_size 0 = .ok (.iconst 0, 1) := by decide +kernel
theorem dX4_size_1 : decode cX4_size 1 = .ok (.istore_n 3, 1) := by decide +kernel
theorem dX4_size_2 : decode cX4_size 2 = .ok (.iconst 0, 1) := by decide +kernel
theorem dX4_size_3 : decode cX4_size 3 = .ok (.istore 4, 2) := by decide +kernel
theorem dX4_size_5 : decode cX4_size 5 = .ok (.iload 4, 2) := by decide +kernel
theorem dX4_size_7 : decode cX4_size 7 = .ok (.aload_n 0, 1) := by decide +kernel
theorem dX4_size_8 : decode cX4_size 8 = .ok (.getfield 39, 3) := by decide +kernel
theorem dX4_size_11 : decode cX4_size 11 = .ok (.if_icmp .ge 33, 3) := by decide +kernel
theorem dX4_size_14 : decode cX4_size 14 = .ok (.iload_n 3, 1) := by decide +kernel
theorem dX4_size_15 : decode cX4_size 15 = .ok (.aload_n 0, 1) := by decide +kernel
theorem dX4_size_16 : decode cX4_size 16 = .ok (.getfield 13, 3) := by decide +kernel
theorem dX4_size_19 : decode cX4_size 19 = .ok (.iload_n 1, 1) := by decide +kernel
theorem dX4_size_20 : decode cX4_size 20 = .ok (.iload_n 2, 1) := by decide +kernel
theorem dX4_size_21 : decode cX4_size 21 = .ok (.iload 4, 2) := by decide +kernel
theorem dX4_size_23 : decode cX4_size 23 = .ok (.invokestatic 42, 3) := by decide +kernel
theorem dX4_size_26 : decode cX4_size 26 = .ok (.iaload, 1) := by decide +kernel
theorem dX4_size_27 : decode cX4_size 27 = .ok (.iconst (-1), 1) := by decide +kernel
theorem dX4_size_28 : decode cX4_size 28 = .ok (.if_icmp .ne 7, 3) := by decide +kernel
theorem dX4_size_31 : decode cX4_size 31 = .ok (.iconst 0, 1) := by decide +kernel
theorem dX4_size_32 : decode cX4_size 32 = .ok (.goto 4, 3) := by decide +kernel
theorem dX4_size_35 : decode cX4_size 35 = .ok (.iconst 1, 1) := by decide +kernel
theorem dX4_size_36 : decode cX4_size 36 = .ok (.iadd, 1) := by decide +kernel
theorem dX4_size_37 : decode cX4_size 37 = .ok (.istore_n 3, 1) := by decide +kernel
theorem dX4_size_38 : decode cX4_size 38 = .ok (.iinc 4 1, 3) := by decide +kernel
theorem dX4_size_41 : decode cX4_size 41 = .ok (.goto (-36), 3) := by decide +kernel
theorem dX4_size_44 : decode cX4_size 44 = .ok (.iload_n 3, 1) := by decide +kernel
theorem dX4_size_45 : decode cX4_size 45 = .ok (.ireturn, 1) := by decide +kernel
set_option maxRecDepth 20000 in
theorem ggX4_all_X4_size : GoodIn wsX4_all wsX4_size := goodIn_r _ [6, 1, 7, 8, 9, 5, 10, 11, 12, 13, 14, 15, 16, 17, 18, 19, 20, 21, 22, 23, 24, 25, 26, 27] (by decide +kernel) (by decide +kernel)
set_option maxRecDepth 20000 in
theorem gX4_all_X4_size : GoodIn wsX4_all (wsV RX4 122 RX4 yX4_size wsX4_size) := goodIn_app (goodIn_of _ (by decide +kernel)) ggX4_all_X4_size
theorem dX4_all_0 : decode cX4_all 0 = .ok (.iconst 0, 1) := by decide +kernel
theorem dX4_all_1 : decode cX4_all 1 = .ok (.istore_n 2, 1) := by decide +kernel
theorem dX4_all_2 : decode cX4_all 2 = .ok (.iconst 0, 1) := by decide +kernel
theorem dX4_all_3 : decode cX4_all 3 = .ok (.istore_n 3, 1) := by decide +kernel
theorem dX4_all_4 : decode cX4_all 4 = .ok (.iload_n 3, 1) := by decide +kernel
theorem dX4_all_5 : decode cX4_all 5 = .ok (.aload_n 0, 1) := by decide +kernel
theorem dX4_all_6 : decode cX4_all 6 = .ok (.getfield 39, 3) := by decide +kernel
theorem dX4_all_9 : decode cX4_all 9 = .ok (.if_icmp .ge 18, 3) := by decide +kernel
theorem dX4_all_12 : decode cX4_all 12 = .ok (.iload_n 2, 1) := by decide +kernel
theorem dX4_all_13 : decode cX4_all 13 = .ok (.aload_n 0, 1) := by decide +kernel
theorem dX4_all_14 : decode cX4_all 14 = .ok (.iload_n 1, 1) := by decide +kernel
theorem dX4_all_15 : decode cX4_all 15 = .ok (.iload_n 3, 1) := by decide +kernel
theorem dX4_all_16 : decode cX4_all 16 = .ok (.invokevirtual 122, 3) := by decide +kernel
theorem dX4_all_19 : decode cX4_all 19 = .ok (.iadd, 1) := by decide +kernel
theorem dX4_all_20 : decode cX4_all 20 = .ok (.istore_n 2, 1) := by decide +kernel
theorem dX4_all_21 : decode cX4_all 21 = .ok (.iinc 3 1, 3) := by decide +kernel
theorem dX4_all_24 : decode cX4_all 24 = .ok (.goto (-20), 3) := by decide +kernel
theorem dX4_all_27 : decode cX4_all 27 = .ok (.iload_n 2, 1) := by decide +kernel
theorem dX4_all_28 : decode cX4_all 28 = .ok (.ireturn, 1) := by decide +kernel
set_option maxRecDepth 20000 in
theorem ggX4_entries_X4_all : GoodIn wsX4_entries wsX4_all := goodIn_r _ [7, 8, 9, 10, 11, 6, 12, 13, 14, 15, 16, 17, 18, 19, 20, 21, 22, 23, 24, 25, 26, 27, 28, 29, 30, 31, 32, 33] (by decide +kernel) (by decide +kernel)
set_option maxRecDepth 20000 in
theorem gX4_entries_X4_all : GoodIn wsX4_entries (wsV RX4 125 RX4 yX4_all wsX4_all) := goodIn_app (goodIn_of _ (by decide +kernel)) ggX4_entries_X4_all
theorem dX4_entries_0 : decode cX4_entries 0 = .ok (.aload_n 0, 1) := by decide +kernel
theorem dX4_entries_1 : decode cX4_entries 1 = .ok (.iconst 0, 1) := by decide +kernel
theorem dX4_entries_2 : decode cX4_entries 2 = .ok (.putfield 35, 3) := by decide +kernel
theorem dX4_entries_5 : decode cX4_entries 5 = .ok (.aload_n 0, 1) := by decide +kernel
theorem dX4_entries_6 : decode cX4_entries 6 = .ok (.getfield 91, 3) := by decide +kernel
theorem dX4_entries_9 : decode cX4_entries 9 = .ok (.ifCond .eq 11, 3) := by decide +kernel
theorem dX4_entries_12 : decode cX4_entries 12 = .ok (.aload_n 0, 1) := by decide +kernel
theorem dX4_entries_13 : decode cX4_entries 13 = .ok (.iconst 0, 1) := by decide +kernel
theorem dX4_entries_14 : decode cX4_entries 14 = .ok (.invokevirtual 125, 3) := by decide +kernel
theorem dX4_entries_17 : decode cX4_entries 17 = .ok (.goto 4, 3) := by decide +kernel
theorem dX4_entries_20 : decode cX4_entries 20 = .ok (.iconst 0, 1) := by decide +kernel
theorem dX4_entries_21 : decode cX4_entries 21 = .ok (.ireturn, 1) := by decide +kernel
set_option maxRecDepth 20000 in
theorem ggX4_entriesIfBuilt_X4_builds : GoodIn wsX4_entriesIfBuilt wsX4_builds := goodIn_r _ [6, 7, 8, 9, 10, 11, 5, 12, 13, 14, 15, 16, 17, 18, 19, 20, 21, 22, 23, 24, 25, 26, 27, 28, 29, 30, 31, 32, 33, 34, 35, 36, 37, 38, 39, 40, 41, 42, 43, 44, 45, 46, 47, 48, 49, 50, 51, 52, 53, 62, 63, 64, 65, 66, 67, 68, 69, 70, 71, 72, 73, 74, 75, 76, 77, 78] (by decide +kernel) (by decide +kernel)
set_option maxRecDepth 20000 in
theorem gX4_entriesIfBuilt_X4_builds : GoodIn wsX4_entriesIfBuilt (wsV RX4 115 RX4 yX4_builds wsX4_builds) := goodIn_app (goodIn_of _ (by decide +kernel)) ggX4_entriesIfBuilt_X4_builds
set_option maxRecDepth 20000 in
theorem ggX4_entriesIfBuilt_X4_all : GoodIn wsX4_entriesIfBuilt wsX4_all := goodIn_r _ [57, 7, 58, 59, 60, 5, 61, 13, 51, 52, 53, 62, 63, 64, 65, 66, 67, 68, 69, 70, 71, 72, 73, 74, 75, 76, 77, 78] (by decide +kernel) (by decide +kernel)
set_option maxRecDepth 20000 in
theorem gX4_entriesIfBuilt_X4_all : GoodIn wsX4_entriesIfBuilt (wsV RX4 125 RX4 yX4_all wsX4_all) := goodIn_app (goodIn_of _ (by decide +kernel)) ggX4_entriesIfBuilt_X4_all
theorem dX4_entriesIfBuilt_0 : decode cX4_entriesIfBuilt 0 = .ok (.aload_n 0, 1) := by decide +kernel
theorem dX4_entriesIfBuilt_1 : decode cX4_entriesIfBuilt 1 = .ok (.iconst 0, 1) := by decide +kernel
theorem dX4_entriesIfBuilt_2 : decode cX4_entriesIfBuilt 2 = .ok (.putfield 35, 3) := by decide +kernel
theorem dX4_entriesIfBuilt_5 : decode cX4_entriesIfBuilt 5 = .ok (.aload_n 0, 1) := by decide +kernel
theorem dX4_entriesIfBuilt_6 : decode cX4_entriesIfBuilt 6 = .ok (.iconst 1, 1) := by decide +kernel
theorem dX4_entriesIfBuilt_7 : decode cX4_entriesIfBuilt 7 = .ok (.invokevirtual 115, 3) := by decide +kernel
theorem dX4_entriesIfBuilt_10 : decode cX4_entriesIfBuilt 10 = .ok (.aload_n 0, 1) := by decide +kernel
theorem dX4_entriesIfBuilt_11 : decode cX4_entriesIfBuilt 11 = .ok (.iconst 1, 1) := by decide +kernel
theorem dX4_entriesIfBuilt_12 : decode cX4_entriesIfBuilt 12 = .ok (.invokevirtual 125, 3) := by decide +kernel
theorem dX4_entriesIfBuilt_15 : decode cX4_entriesIfBuilt 15 = .ok (.ireturn, 1) := by decide +kernel
set_option maxRecDepth 20000 in
theorem ggX4_labelSize_X4_wrong : GoodIn wsX4_labelSize wsX4_wrong := goodIn_r _ [5, 6, 7, 8, 9, 4, 10, 11, 25, 26, 27, 28, 29, 30, 31, 32, 33, 34, 35, 36, 37, 38, 39, 40, 41] (by decide +kernel) (by decide +kernel)
set_option maxRecDepth 20000 in
theorem gX4_labelSize_X4_wrong : GoodIn wsX4_labelSize (wsV RX4 118 RX4 yX4_wrong wsX4_wrong) := goodIn_app (goodIn_of _ (by decide +kernel)) ggX4_labelSize_X4_wrong
set_option maxRecDepth 20000 in
theorem ggX4_labelSize_X4_goes : GoodIn wsX4_labelSize wsX4_goes := goodIn_r _ [15, 16, 25, 26, 27, 28, 29, 30, 31, 32, 33, 34, 35, 36, 37, 38, 39, 40, 41] (by decide +kernel) (by decide +kernel)
set_option maxRecDepth 20000 in
theorem gX4_labelSize_X4_goes : GoodIn wsX4_labelSize (wsV RX4 95 RX4 yX4_goes wsX4_goes) := goodIn_app (goodIn_of _ (by decide +kernel)) ggX4_labelSize_X4_goes
set_option maxRecDepth 20000 in
theorem ggX4_labelSize_X4_size : GoodIn wsX4_labelSize wsX4_size := goodIn_r _ [20, 11, 21, 22, 23, 4, 24, 25, 26, 27, 28, 29, 30, 31, 32, 33, 34, 35, 36, 37, 38, 39, 40, 41] (by decide +kernel) (by decide +kernel)
set_option maxRecDepth 20000 in
theorem gX4_labelSize_X4_size : GoodIn wsX4_labelSize (wsV RX4 122 RX4 yX4_size wsX4_size) := goodIn_app (goodIn_of _ (by decide +kernel)) ggX4_labelSize_X4_size
theorem dX4_labelSize_0 : decode cX4_labelSize 0 = .ok (.aload_n 0, 1) := by decide +kernel
theorem dX4_labelSize_1 : decode cX4_labelSize 1 = .ok (.aload_n 0, 1) := by decide +kernel
theorem dX4_labelSize_2 : decode cX4_labelSize 2 = .ok (.iload_n 1, 1) := by decide +kernel
theorem dX4_labelSize_3 : decode cX4_labelSize 3 = .ok (.iload_n 1, 1) := by decide +kernel
theorem dX4_labelSize_4 : decode cX4_labelSize 4 = .ok (.invokevirtual 118, 3) := by decide +kernel
theorem dX4_labelSize_7 : decode cX4_labelSize 7 = .ok (.invokevirtual 95, 3) := by decide +kernel
theorem dX4_labelSize_10 : decode cX4_labelSize 10 = .ok (.ifCond .eq 12, 3) := by decide +kernel
theorem dX4_labelSize_13 : decode cX4_labelSize 13 = .ok (.aload_n 0, 1) := by decide +kernel
theorem dX4_labelSize_14 : decode cX4_labelSize 14 = .ok (.iconst 0, 1) := by decide +kernel
theorem dX4_labelSize_15 : decode cX4_labelSize 15 = .ok (.iload_n 1, 1) := by decide +kernel
theorem dX4_labelSize_16 : decode cX4_labelSize 16 = .ok (.invokevirtual 122, 3) := by decide +kernel
theorem dX4_labelSize_19 : decode cX4_labelSize 19 = .ok (.goto 4, 3) := by decide +kernel
theorem dX4_labelSize_22 : decode cX4_labelSize 22 = .ok (.iconst 0, 1) := by decide +kernel
theorem dX4_labelSize_23 : decode cX4_labelSize 23 = .ok (.ireturn, 1) := by decide +kernel
set_option maxRecDepth 20000 in
theorem ggX4_asksEntry_X4_wrong : GoodIn wsX4_asksEntry wsX4_wrong := goodIn_r _ [7, 8, 9, 10, 11, 6, 12, 1, 21, 22, 23, 24, 25, 26, 27, 28, 29, 30, 31, 32, 33, 34, 35, 36, 37] (by decide +kernel) (by decide +kernel)
set_option maxRecDepth 20000 in
theorem gX4_asksEntry_X4_wrong : GoodIn wsX4_asksEntry (wsV RX4 118 RX4 yX4_wrong wsX4_wrong) := goodIn_app (goodIn_of _ (by decide +kernel)) ggX4_asksEntry_X4_wrong
set_option maxRecDepth 20000 in
theorem ggX4_asksEntry_X4_goes : GoodIn wsX4_asksEntry wsX4_goes := goodIn_r _ [16, 17, 21, 22, 23, 24, 25, 26, 27, 28, 29, 30, 31, 32, 33, 34, 35, 36, 37] (by decide +kernel) (by decide +kernel)
set_option maxRecDepth 20000 in
theorem gX4_asksEntry_X4_goes : GoodIn wsX4_asksEntry (wsV RX4 95 RX4 yX4_goes wsX4_goes) := goodIn_app (goodIn_of _ (by decide +kernel)) ggX4_asksEntry_X4_goes
set_option maxRecDepth 20000 in
theorem ggX4_asksEntry_X4_at : GoodIn wsX4_asksEntry wsX4_at := goodIn_r _ [20] (by decide +kernel) (by decide +kernel)
set_option maxRecDepth 20000 in
theorem gX4_asksEntry_X4_at : GoodIn wsX4_asksEntry (va_wsS RX4 42 yX4_at wsX4_at) := goodIn_app (goodIn_of _ (by decide +kernel)) ggX4_asksEntry_X4_at
theorem dX4_asksEntry_0 : decode cX4_asksEntry 0 = .ok (.aload_n 0, 1) := by decide +kernel
theorem dX4_asksEntry_1 : decode cX4_asksEntry 1 = .ok (.aload_n 0, 1) := by decide +kernel
theorem dX4_asksEntry_2 : decode cX4_asksEntry 2 = .ok (.iload_n 1, 1) := by decide +kernel
theorem dX4_asksEntry_3 : decode cX4_asksEntry 3 = .ok (.iload_n 1, 1) := by decide +kernel
theorem dX4_asksEntry_4 : decode cX4_asksEntry 4 = .ok (.invokevirtual 118, 3) := by decide +kernel
theorem dX4_asksEntry_7 : decode cX4_asksEntry 7 = .ok (.invokevirtual 95, 3) := by decide +kernel
theorem dX4_asksEntry_10 : decode cX4_asksEntry 10 = .ok (.ifCond .ne 5, 3) := by decide +kernel
theorem dX4_asksEntry_13 : decode cX4_asksEntry 13 = .ok (.iconst (-1), 1) := by decide +kernel
theorem dX4_asksEntry_14 : decode cX4_asksEntry 14 = .ok (.ireturn, 1) := by decide +kernel
theorem dX4_asksEntry_15 : decode cX4_asksEntry 15 = .ok (.iconst (-1), 1) := by decide +kernel
theorem dX4_asksEntry_16 : decode cX4_asksEntry 16 = .ok (.istore_n 3, 1) := by decide +kernel
theorem dX4_asksEntry_17 : decode cX4_asksEntry 17 = .ok (.iconst 0, 1) := by decide +kernel
theorem dX4_asksEntry_18 : decode cX4_asksEntry 18 = .ok (.istore 4, 2) := by decide +kernel
theorem dX4_asksEntry_20 : decode cX4_asksEntry 20 = .ok (.iconst 0, 1) := by decide +kernel
theorem dX4_asksEntry_21 : decode cX4_asksEntry 21 = .ok (.istore 5, 2) := by decide +kernel
theorem dX4_asksEntry_23 : decode cX4_asksEntry 23 = .ok (.iload 5, 2) := by decide +kernel
theorem dX4_asksEntry_25 : decode cX4_asksEntry 25 = .ok (.aload_n 0, 1) := by decide +kernel
theorem dX4_asksEntry_26 : decode cX4_asksEntry 26 = .ok (.getfield 39, 3) := by decide +kernel
theorem dX4_asksEntry_29 : decode cX4_asksEntry 29 = .ok (.if_icmp .ge 65, 3) := by decide +kernel
theorem dX4_asksEntry_32 : decode cX4_asksEntry 32 = .ok (.aload_n 0, 1) := by decide +kernel
theorem dX4_asksEntry_33 : decode cX4_asksEntry 33 = .ok (.getfield 13, 3) := by decide +kernel
theorem dX4_asksEntry_36 : decode cX4_asksEntry 36 = .ok (.iconst 0, 1) := by decide +kernel
theorem dX4_asksEntry_37 : decode cX4_asksEntry 37 = .ok (.iload_n 1, 1) := by decide +kernel
theorem dX4_asksEntry_38 : decode cX4_asksEntry 38 = .ok (.iload 5, 2) := by decide +kernel
theorem dX4_asksEntry_40 : decode cX4_asksEntry 40 = .ok (.invokestatic 42, 3) := by decide +kernel
theorem dX4_asksEntry_43 : decode cX4_asksEntry 43 = .ok (.iaload, 1) := by decide +kernel
theorem dX4_asksEntry_44 : decode cX4_asksEntry 44 = .ok (.iconst (-1), 1) := by decide +kernel
theorem dX4_asksEntry_45 : decode cX4_asksEntry 45 = .ok (.if_icmp .eq 7, 3) := by decide +kernel
theorem dX4_asksEntry_48 : decode cX4_asksEntry 48 = .ok (.iconst 1, 1) := by decide +kernel
theorem dX4_asksEntry_49 : decode cX4_asksEntry 49 = .ok (.goto 4, 3) := by decide +kernel
theorem dX4_asksEntry_52 : decode cX4_asksEntry 52 = .ok (.iconst 0, 1) := by decide +kernel
theorem dX4_asksEntry_53 : decode cX4_asksEntry 53 = .ok (.istore 6, 2) := by decide +kernel
theorem dX4_asksEntry_55 : decode cX4_asksEntry 55 = .ok (.iload 6, 2) := by decide +kernel
theorem dX4_asksEntry_57 : decode cX4_asksEntry 57 = .ok (.ifCond .eq 14, 3) := by decide +kernel
theorem dX4_asksEntry_60 : decode cX4_asksEntry 60 = .ok (.iload 4, 2) := by decide +kernel
theorem dX4_asksEntry_62 : decode cX4_asksEntry 62 = .ok (.iload_n 2, 1) := by decide +kernel
theorem dX4_asksEntry_63 : decode cX4_asksEntry 63 = .ok (.if_icmp .ne 8, 3) := by decide +kernel
theorem dX4_asksEntry_66 : decode cX4_asksEntry 66 = .ok (.iload 5, 2) := by decide +kernel
theorem dX4_asksEntry_68 : decode cX4_asksEntry 68 = .ok (.goto 4, 3) := by decide +kernel
theorem dX4_asksEntry_71 : decode cX4_asksEntry 71 = .ok (.iload_n 3, 1) := by decide +kernel
theorem dX4_asksEntry_72 : decode cX4_asksEntry 72 = .ok (.istore_n 3, 1) := by decide +kernel
theorem dX4_asksEntry_73 : decode cX4_asksEntry 73 = .ok (.iload 4, 2) := by decide +kernel
theorem dX4_asksEntry_75 : decode cX4_asksEntry 75 = .ok (.iload 6, 2) := by decide +kernel
theorem dX4_asksEntry_77 : decode cX4_asksEntry 77 = .ok (.ifCond .eq 7, 3) := by decide +kernel
theorem dX4_asksEntry_80 : decode cX4_asksEntry 80 = .ok (.iconst 1, 1) := by decide +kernel
theorem dX4_asksEntry_81 : decode cX4_asksEntry 81 = .ok (.goto 4, 3) := by decide +kernel
theorem dX4_asksEntry_84 : decode cX4_asksEntry 84 = .ok (.iconst 0, 1) := by decide +kernel
theorem dX4_asksEntry_85 : decode cX4_asksEntry 85 = .ok (.iadd, 1) := by decide +kernel
theorem dX4_asksEntry_86 : decode cX4_asksEntry 86 = .ok (.istore 4, 2) := by decide +kernel
theorem dX4_asksEntry_88 : decode cX4_asksEntry 88 = .ok (.iinc 5 1, 3) := by decide +kernel
theorem dX4_asksEntry_91 : decode cX4_asksEntry 91 = .ok (.goto (-68), 3) := by decide +kernel
theorem dX4_asksEntry_94 : decode cX4_asksEntry 94 = .ok (.aload_n 0, 1) := by decide +kernel
theorem dX4_asksEntry_95 : decode cX4_asksEntry 95 = .ok (.iload_n 3, 1) := by decide +kernel
theorem dX4_asksEntry_96 : decode cX4_asksEntry 96 = .ok (.iconst (-1), 1) := by decide +kernel
theorem dX4_asksEntry_97 : decode cX4_asksEntry 97 = .ok (.if_icmp .ne 7, 3) := by decide +kernel
theorem dX4_asksEntry_100 : decode cX4_asksEntry 100 = .ok (.iconst 3, 1) := by decide +kernel
theorem dX4_asksEntry_101 : decode cX4_asksEntry 101 = .ok (.goto 4, 3) := by decide +kernel
theorem dX4_asksEntry_104 : decode cX4_asksEntry 104 = .ok (.iconst 0, 1) := by decide +kernel
theorem dX4_asksEntry_105 : decode cX4_asksEntry 105 = .ok (.invokevirtual 95, 3) := by decide +kernel
theorem dX4_asksEntry_108 : decode cX4_asksEntry 108 = .ok (.ifCond .eq 7, 3) := by decide +kernel
theorem dX4_asksEntry_111 : decode cX4_asksEntry 111 = .ok (.iload_n 3, 1) := by decide +kernel
theorem dX4_asksEntry_112 : decode cX4_asksEntry 112 = .ok (.goto 4, 3) := by decide +kernel
theorem dX4_asksEntry_115 : decode cX4_asksEntry 115 = .ok (.iconst (-1), 1) := by decide +kernel
theorem dX4_asksEntry_116 : decode cX4_asksEntry 116 = .ok (.ireturn, 1) := by decide +kernel
set_option maxRecDepth 20000 in
theorem ggX4_entryHub_X4_asksEntry : GoodIn wsX4_entryHub wsX4_asksEntry := goodIn_r _ [6, 7, 8, 9, 10, 11, 5, 12, 13, 14, 15, 16, 17, 18, 19, 20, 21, 22, 23, 24, 25, 26, 27, 28, 29, 30, 31, 32, 33, 34, 35, 36, 37, 38, 39, 40, 41, 42] (by decide +kernel) (by decide +kernel)
set_option maxRecDepth 20000 in
theorem gX4_entryHub_X4_asksEntry : GoodIn wsX4_entryHub (wsV RX4 128 RX4 yX4_asksEntry wsX4_asksEntry) := goodIn_app (goodIn_of _ (by decide +kernel)) ggX4_entryHub_X4_asksEntry
theorem dX4_entryHub_0 : decode cX4_entryHub 0 = .ok (.aload_n 0, 1) := by decide +kernel
theorem dX4_entryHub_1 : decode cX4_entryHub 1 = .ok (.iload_n 1, 1) := by decide +kernel
theorem dX4_entryHub_2 : decode cX4_entryHub 2 = .ok (.iload_n 2, 1) := by decide +kernel
theorem dX4_entryHub_3 : decode cX4_entryHub 3 = .ok (.invokevirtual 128, 3) := by decide +kernel
theorem dX4_entryHub_6 : decode cX4_entryHub 6 = .ok (.istore_n 3, 1) := by decide +kernel
theorem dX4_entryHub_7 : decode cX4_entryHub 7 = .ok (.iload_n 3, 1) := by decide +kernel
theorem dX4_entryHub_8 : decode cX4_entryHub 8 = .ok (.iconst (-1), 1) := by decide +kernel
theorem dX4_entryHub_9 : decode cX4_entryHub 9 = .ok (.if_icmp .ne 7, 3) := by decide +kernel
theorem dX4_entryHub_12 : decode cX4_entryHub 12 = .ok (.iconst 0, 1) := by decide +kernel
theorem dX4_entryHub_13 : decode cX4_entryHub 13 = .ok (.goto 9, 3) := by decide +kernel
theorem dX4_entryHub_16 : decode cX4_entryHub 16 = .ok (.aload_n 0, 1) := by decide +kernel
theorem dX4_entryHub_17 : decode cX4_entryHub 17 = .ok (.getfield 20, 3) := by decide +kernel
theorem dX4_entryHub_20 : decode cX4_entryHub 20 = .ok (.iload_n 3, 1) := by decide +kernel
theorem dX4_entryHub_21 : decode cX4_entryHub 21 = .ok (.iaload, 1) := by decide +kernel
theorem dX4_entryHub_22 : decode cX4_entryHub 22 = .ok (.ireturn, 1) := by decide +kernel
set_option maxRecDepth 20000 in
theorem ggX4_entryDistance_X4_asksEntry : GoodIn wsX4_entryDistance wsX4_asksEntry := goodIn_r _ [6, 7, 1, 8, 9, 10, 5, 11, 12, 13, 14, 15, 16, 17, 18, 19, 20, 21, 22, 23, 24, 25, 26, 27, 28, 29, 30, 31, 32, 33, 34, 35, 36, 37, 38, 39, 40, 41] (by decide +kernel) (by decide +kernel)
set_option maxRecDepth 20000 in
theorem gX4_entryDistance_X4_asksEntry : GoodIn wsX4_entryDistance (wsV RX4 128 RX4 yX4_asksEntry wsX4_asksEntry) := goodIn_app (goodIn_of _ (by decide +kernel)) ggX4_entryDistance_X4_asksEntry
set_option maxRecDepth 20000 in
theorem ggX4_entryDistance_X4_at : GoodIn wsX4_entryDistance wsX4_at := goodIn_r _ [24] (by decide +kernel) (by decide +kernel)
set_option maxRecDepth 20000 in
theorem gX4_entryDistance_X4_at : GoodIn wsX4_entryDistance (va_wsS RX4 42 yX4_at wsX4_at) := goodIn_app (goodIn_of _ (by decide +kernel)) ggX4_entryDistance_X4_at
theorem dX4_entryDistance_0 : decode cX4_entryDistance 0 = .ok (.aload_n 0, 1) := by decide +kernel
theorem dX4_entryDistance_1 : decode cX4_entryDistance 1 = .ok (.iload_n 1, 1) := by decide +kernel
theorem dX4_entryDistance_2 : decode cX4_entryDistance 2 = .ok (.iload_n 2, 1) := by decide +kernel
theorem dX4_entryDistance_3 : decode cX4_entryDistance 3 = .ok (.invokevirtual 128, 3) := by decide +kernel
theorem dX4_entryDistance_6 : decode cX4_entryDistance 6 = .ok (.istore_n 3, 1) := by decide +kernel
theorem dX4_entryDistance_7 : decode cX4_entryDistance 7 = .ok (.iload_n 3, 1) := by decide +kernel
theorem dX4_entryDistance_8 : decode cX4_entryDistance 8 = .ok (.iconst (-1), 1) := by decide +kernel
theorem dX4_entryDistance_9 : decode cX4_entryDistance 9 = .ok (.if_icmp .ne 7, 3) := by decide +kernel
theorem dX4_entryDistance_12 : decode cX4_entryDistance 12 = .ok (.iconst 0, 1) := by decide +kernel
theorem dX4_entryDistance_13 : decode cX4_entryDistance 13 = .ok (.goto 14, 3) := by decide +kernel
theorem dX4_entryDistance_16 : decode cX4_entryDistance 16 = .ok (.aload_n 0, 1) := by decide +kernel
theorem dX4_entryDistance_17 : decode cX4_entryDistance 17 = .ok (.getfield 13, 3) := by decide +kernel
theorem dX4_entryDistance_20 : decode cX4_entryDistance 20 = .ok (.iconst 0, 1) := by decide +kernel
theorem dX4_entryDistance_21 : decode cX4_entryDistance 21 = .ok (.iload_n 1, 1) := by decide +kernel
theorem dX4_entryDistance_22 : decode cX4_entryDistance 22 = .ok (.iload_n 3, 1) := by decide +kernel
theorem dX4_entryDistance_23 : decode cX4_entryDistance 23 = .ok (.invokestatic 42, 3) := by decide +kernel
theorem dX4_entryDistance_26 : decode cX4_entryDistance 26 = .ok (.iaload, 1) := by decide +kernel
theorem dX4_entryDistance_27 : decode cX4_entryDistance 27 = .ok (.ireturn, 1) := by decide +kernel
set_option maxRecDepth 20000 in
theorem ggX4_entryParent_X4_asksEntry : GoodIn wsX4_entryParent wsX4_asksEntry := goodIn_r _ [6, 7, 8, 9, 10, 11, 5, 12, 13, 14, 15, 16, 17, 18, 19, 20, 21, 22, 23, 24, 25, 26, 27, 28, 29, 30, 31, 32, 33, 34, 35, 36, 37, 38, 39, 40, 41, 42] (by decide +kernel) (by decide +kernel)
set_option maxRecDepth 20000 in
theorem gX4_entryParent_X4_asksEntry : GoodIn wsX4_entryParent (wsV RX4 128 RX4 yX4_asksEntry wsX4_asksEntry) := goodIn_app (goodIn_of _ (by decide +kernel)) ggX4_entryParent_X4_asksEntry
set_option maxRecDepth 20000 in
theorem ggX4_entryParent_X4_at : GoodIn wsX4_entryParent wsX4_at := goodIn_r _ [25] (by decide +kernel) (by decide +kernel)
set_option maxRecDepth 20000 in
theorem gX4_entryParent_X4_at : GoodIn wsX4_entryParent (va_wsS RX4 42 yX4_at wsX4_at) := goodIn_app (goodIn_of _ (by decide +kernel)) ggX4_entryParent_X4_at
theorem dX4_entryParent_0 : decode cX4_entryParent 0 = .ok (.aload_n 0, 1) := by decide +kernel
theorem dX4_entryParent_1 : decode cX4_entryParent 1 = .ok (.iload_n 1, 1) := by decide +kernel
theorem dX4_entryParent_2 : decode cX4_entryParent 2 = .ok (.iload_n 2, 1) := by decide +kernel
theorem dX4_entryParent_3 : decode cX4_entryParent 3 = .ok (.invokevirtual 128, 3) := by decide +kernel
theorem dX4_entryParent_6 : decode cX4_entryParent 6 = .ok (.istore_n 3, 1) := by decide +kernel
theorem dX4_entryParent_7 : decode cX4_entryParent 7 = .ok (.iload_n 3, 1) := by decide +kernel
theorem dX4_entryParent_8 : decode cX4_entryParent 8 = .ok (.iconst (-1), 1) := by decide +kernel
theorem dX4_entryParent_9 : decode cX4_entryParent 9 = .ok (.if_icmp .ne 7, 3) := by decide +kernel
theorem dX4_entryParent_12 : decode cX4_entryParent 12 = .ok (.iconst 0, 1) := by decide +kernel
theorem dX4_entryParent_13 : decode cX4_entryParent 13 = .ok (.goto 14, 3) := by decide +kernel
theorem dX4_entryParent_16 : decode cX4_entryParent 16 = .ok (.aload_n 0, 1) := by decide +kernel
theorem dX4_entryParent_17 : decode cX4_entryParent 17 = .ok (.getfield 17, 3) := by decide +kernel
theorem dX4_entryParent_20 : decode cX4_entryParent 20 = .ok (.iconst 0, 1) := by decide +kernel
theorem dX4_entryParent_21 : decode cX4_entryParent 21 = .ok (.iload_n 1, 1) := by decide +kernel
theorem dX4_entryParent_22 : decode cX4_entryParent 22 = .ok (.iload_n 3, 1) := by decide +kernel
theorem dX4_entryParent_23 : decode cX4_entryParent 23 = .ok (.invokestatic 42, 3) := by decide +kernel
theorem dX4_entryParent_26 : decode cX4_entryParent 26 = .ok (.iaload, 1) := by decide +kernel
theorem dX4_entryParent_27 : decode cX4_entryParent 27 = .ok (.ireturn, 1) := by decide +kernel
set_option maxRecDepth 20000 in
theorem ggX4_between_X4_estimate : GoodIn wsX4_between wsX4_estimate := goodIn_r _ [6, 7, 8, 9, 5, 10, 11, 12, 13, 14, 15, 16, 17, 18, 19, 20, 21, 22, 23, 24, 25, 26, 27] (by decide +kernel) (by decide +kernel)
set_option maxRecDepth 20000 in
theorem gX4_between_X4_estimate : GoodIn wsX4_between (wsV RX4 46 RX4 yX4_estimate wsX4_estimate) := goodIn_app (goodIn_of _ (by decide +kernel)) ggX4_between_X4_estimate
theorem dX4_between_0 : decode cX4_between 0 = .ok (.aload_n 0, 1) := by decide +kernel
theorem dX4_between_1 : decode cX4_between 1 = .ok (.iconst 0, 1) := by decide +kernel
theorem dX4_between_2 : decode cX4_between 2 = .ok (.iload_n 1, 1) := by decide +kernel
theorem dX4_between_3 : decode cX4_between 3 = .ok (.iload_n 2, 1) := by decide +kernel
theorem dX4_between_4 : decode cX4_between 4 = .ok (.aload_n 0, 1) := by decide +kernel
theorem dX4_between_5 : decode cX4_between 5 = .ok (.getfield 39, 3) := by decide +kernel
theorem dX4_between_8 : decode cX4_between 8 = .ok (.iconst 1, 1) := by decide +kernel
theorem dX4_between_9 : decode cX4_between 9 = .ok (.isub, 1) := by decide +kernel
theorem dX4_between_10 : decode cX4_between 10 = .ok (.invokevirtual 46, 3) := by decide +kernel
theorem dX4_between_13 : decode cX4_between 13 = .ok (.ireturn, 1) := by decide +kernel
set_option maxRecDepth 20000 in
theorem ggX4_distance_X4_wrong : GoodIn wsX4_distance wsX4_wrong := goodIn_r _ [5, 6, 7, 8, 9, 4, 10, 11, 29, 30, 31, 32, 33, 34, 35, 36, 37, 38, 39, 40, 41, 42, 43, 44, 45] (by decide +kernel) (by decide +kernel)
set_option maxRecDepth 20000 in
theorem gX4_distance_X4_wrong : GoodIn wsX4_distance (wsV RX4 118 RX4 yX4_wrong wsX4_wrong) := goodIn_app (goodIn_of _ (by decide +kernel)) ggX4_distance_X4_wrong
set_option maxRecDepth 20000 in
theorem ggX4_distance_X4_goes : GoodIn wsX4_distance wsX4_goes := goodIn_r _ [15, 16, 29, 30, 31, 32, 33, 34, 35, 36, 37, 38, 39, 40, 41, 42, 43, 44, 45] (by decide +kernel) (by decide +kernel)
set_option maxRecDepth 20000 in
theorem gX4_distance_X4_goes : GoodIn wsX4_distance (wsV RX4 95 RX4 yX4_goes wsX4_goes) := goodIn_app (goodIn_of _ (by decide +kernel)) ggX4_distance_X4_goes
set_option maxRecDepth 20000 in
theorem ggX4_distance_X4_between : GoodIn wsX4_distance wsX4_between := goodIn_r _ [20, 11, 21, 22, 23, 4, 24, 25, 26, 27, 28, 29, 30, 31, 32, 33, 34, 35, 36, 37, 38, 39, 40, 41, 42, 43, 44, 45] (by decide +kernel) (by decide +kernel)
set_option maxRecDepth 20000 in
theorem gX4_distance_X4_between : GoodIn wsX4_distance (wsV RX4 131 RX4 yX4_between wsX4_between) := goodIn_app (goodIn_of _ (by decide +kernel)) ggX4_distance_X4_between
theorem dX4_distance_0 : decode cX4_distance 0 = .ok (.aload_n 0, 1) := by decide +kernel
theorem dX4_distance_1 : decode cX4_distance 1 = .ok (.aload_n 0, 1) := by decide +kernel
theorem dX4_distance_2 : decode cX4_distance 2 = .ok (.iload_n 1, 1) := by decide +kernel
theorem dX4_distance_3 : decode cX4_distance 3 = .ok (.iload_n 2, 1) := by decide +kernel
theorem dX4_distance_4 : decode cX4_distance 4 = .ok (.invokevirtual 118, 3) := by decide +kernel
theorem dX4_distance_7 : decode cX4_distance 7 = .ok (.invokevirtual 95, 3) := by decide +kernel
theorem dX4_distance_10 : decode cX4_distance 10 = .ok (.ifCond .eq 12, 3) := by decide +kernel
theorem dX4_distance_13 : decode cX4_distance 13 = .ok (.aload_n 0, 1) := by decide +kernel
theorem dX4_distance_14 : decode cX4_distance 14 = .ok (.iload_n 1, 1) := by decide +kernel
theorem dX4_distance_15 : decode cX4_distance 15 = .ok (.iload_n 2, 1) := by decide +kernel
theorem dX4_distance_16 : decode cX4_distance 16 = .ok (.invokevirtual 131, 3) := by decide +kernel
theorem dX4_distance_19 : decode cX4_distance 19 = .ok (.goto 4, 3) := by decide +kernel
theorem dX4_distance_22 : decode cX4_distance 22 = .ok (.iconst 0, 1) := by decide +kernel
theorem dX4_distance_23 : decode cX4_distance 23 = .ok (.ireturn, 1) := by decide +kernel
set_option maxRecDepth 20000 in
theorem ggX4_rankBetween_X4_between : GoodIn wsX4_rankBetween wsX4_between := goodIn_r _ [7, 1, 8, 9, 10, 6, 11, 2, 12, 13, 14, 15, 16, 17, 18, 19, 20, 21, 22, 23, 24, 25, 26, 27, 28, 29, 30, 31] (by decide +kernel) (by decide +kernel)
set_option maxRecDepth 20000 in
theorem gX4_rankBetween_X4_between : GoodIn wsX4_rankBetween (wsV RX4 131 RX4 yX4_between wsX4_between) := goodIn_app (goodIn_of _ (by decide +kernel)) ggX4_rankBetween_X4_between
set_option maxRecDepth 20000 in
theorem ggX4_rankBetween_X4_at : GoodIn wsX4_rankBetween wsX4_at := goodIn_r _ [14] (by decide +kernel) (by decide +kernel)
set_option maxRecDepth 20000 in
theorem gX4_rankBetween_X4_at : GoodIn wsX4_rankBetween (va_wsS RX4 42 yX4_at wsX4_at) := goodIn_app (goodIn_of _ (by decide +kernel)) ggX4_rankBetween_X4_at
theorem dX4_rankBetween_0 : decode cX4_rankBetween 0 = .ok (.aload_n 0, 1) := by decide +kernel
theorem dX4_rankBetween_1 : decode cX4_rankBetween 1 = .ok (.iload_n 1, 1) := by decide +kernel
theorem dX4_rankBetween_2 : decode cX4_rankBetween 2 = .ok (.iload_n 2, 1) := by decide +kernel
theorem dX4_rankBetween_3 : decode cX4_rankBetween 3 = .ok (.invokevirtual 131, 3) := by decide +kernel
theorem dX4_rankBetween_6 : decode cX4_rankBetween 6 = .ok (.istore_n 3, 1) := by decide +kernel
theorem dX4_rankBetween_7 : decode cX4_rankBetween 7 = .ok (.iconst (-1), 1) := by decide +kernel
theorem dX4_rankBetween_8 : decode cX4_rankBetween 8 = .ok (.istore 4, 2) := by decide +kernel
theorem dX4_rankBetween_10 : decode cX4_rankBetween 10 = .ok (.aload_n 0, 1) := by decide +kernel
theorem dX4_rankBetween_11 : decode cX4_rankBetween 11 = .ok (.getfield 39, 3) := by decide +kernel
theorem dX4_rankBetween_14 : decode cX4_rankBetween 14 = .ok (.iconst 1, 1) := by decide +kernel
theorem dX4_rankBetween_15 : decode cX4_rankBetween 15 = .ok (.isub, 1) := by decide +kernel
theorem dX4_rankBetween_16 : decode cX4_rankBetween 16 = .ok (.istore 5, 2) := by decide +kernel
theorem dX4_rankBetween_18 : decode cX4_rankBetween 18 = .ok (.iload 5, 2) := by decide +kernel
theorem dX4_rankBetween_20 : decode cX4_rankBetween 20 = .ok (.ifCond .lt 72, 3) := by decide +kernel
theorem dX4_rankBetween_23 : decode cX4_rankBetween 23 = .ok (.iload_n 3, 1) := by decide +kernel
theorem dX4_rankBetween_24 : decode cX4_rankBetween 24 = .ok (.iconst (-1), 1) := by decide +kernel
theorem dX4_rankBetween_25 : decode cX4_rankBetween 25 = .ok (.if_icmp .eq 67, 3) := by decide +kernel
theorem dX4_rankBetween_28 : decode cX4_rankBetween 28 = .ok (.aload_n 0, 1) := by decide +kernel
theorem dX4_rankBetween_29 : decode cX4_rankBetween 29 = .ok (.getfield 13, 3) := by decide +kernel
theorem dX4_rankBetween_32 : decode cX4_rankBetween 32 = .ok (.iconst 0, 1) := by decide +kernel
theorem dX4_rankBetween_33 : decode cX4_rankBetween 33 = .ok (.iload_n 1, 1) := by decide +kernel
theorem dX4_rankBetween_34 : decode cX4_rankBetween 34 = .ok (.iload 5, 2) := by decide +kernel
theorem dX4_rankBetween_36 : decode cX4_rankBetween 36 = .ok (.invokestatic 42, 3) := by decide +kernel
theorem dX4_rankBetween_39 : decode cX4_rankBetween 39 = .ok (.iaload, 1) := by decide +kernel
theorem dX4_rankBetween_40 : decode cX4_rankBetween 40 = .ok (.istore 6, 2) := by decide +kernel
theorem dX4_rankBetween_42 : decode cX4_rankBetween 42 = .ok (.aload_n 0, 1) := by decide +kernel
theorem dX4_rankBetween_43 : decode cX4_rankBetween 43 = .ok (.getfield 13, 3) := by decide +kernel
theorem dX4_rankBetween_46 : decode cX4_rankBetween 46 = .ok (.iconst 0, 1) := by decide +kernel
theorem dX4_rankBetween_47 : decode cX4_rankBetween 47 = .ok (.iload_n 2, 1) := by decide +kernel
theorem dX4_rankBetween_48 : decode cX4_rankBetween 48 = .ok (.iload 5, 2) := by decide +kernel
theorem dX4_rankBetween_50 : decode cX4_rankBetween 50 = .ok (.invokestatic 42, 3) := by decide +kernel
theorem dX4_rankBetween_53 : decode cX4_rankBetween 53 = .ok (.iaload, 1) := by decide +kernel
theorem dX4_rankBetween_54 : decode cX4_rankBetween 54 = .ok (.istore 7, 2) := by decide +kernel
theorem dX4_rankBetween_56 : decode cX4_rankBetween 56 = .ok (.iload 6, 2) := by decide +kernel
theorem dX4_rankBetween_58 : decode cX4_rankBetween 58 = .ok (.iconst (-1), 1) := by decide +kernel
theorem dX4_rankBetween_59 : decode cX4_rankBetween 59 = .ok (.if_icmp .eq 23, 3) := by decide +kernel
theorem dX4_rankBetween_62 : decode cX4_rankBetween 62 = .ok (.iload 7, 2) := by decide +kernel
theorem dX4_rankBetween_64 : decode cX4_rankBetween 64 = .ok (.iconst (-1), 1) := by decide +kernel
theorem dX4_rankBetween_65 : decode cX4_rankBetween 65 = .ok (.if_icmp .eq 17, 3) := by decide +kernel
theorem dX4_rankBetween_68 : decode cX4_rankBetween 68 = .ok (.iload 6, 2) := by decide +kernel
theorem dX4_rankBetween_70 : decode cX4_rankBetween 70 = .ok (.iload 7, 2) := by decide +kernel
theorem dX4_rankBetween_72 : decode cX4_rankBetween 72 = .ok (.iadd, 1) := by decide +kernel
theorem dX4_rankBetween_73 : decode cX4_rankBetween 73 = .ok (.iload_n 3, 1) := by decide +kernel
theorem dX4_rankBetween_74 : decode cX4_rankBetween 74 = .ok (.if_icmp .ne 8, 3) := by decide +kernel
theorem dX4_rankBetween_77 : decode cX4_rankBetween 77 = .ok (.iload 5, 2) := by decide +kernel
theorem dX4_rankBetween_79 : decode cX4_rankBetween 79 = .ok (.goto 5, 3) := by decide +kernel
theorem dX4_rankBetween_82 : decode cX4_rankBetween 82 = .ok (.iload 4, 2) := by decide +kernel
theorem dX4_rankBetween_84 : decode cX4_rankBetween 84 = .ok (.istore 4, 2) := by decide +kernel
theorem dX4_rankBetween_86 : decode cX4_rankBetween 86 = .ok (.iinc 5 (-1), 3) := by decide +kernel
theorem dX4_rankBetween_89 : decode cX4_rankBetween 89 = .ok (.goto (-71), 3) := by decide +kernel
theorem dX4_rankBetween_92 : decode cX4_rankBetween 92 = .ok (.iload 4, 2) := by decide +kernel
theorem dX4_rankBetween_94 : decode cX4_rankBetween 94 = .ok (.ireturn, 1) := by decide +kernel
set_option maxRecDepth 20000 in
theorem ggX4_hub_X4_wrong : GoodIn wsX4_hub wsX4_wrong := goodIn_r _ [6, 7, 8, 9, 10, 5, 11, 12, 34, 35, 36, 37, 38, 39, 40, 41, 42, 43, 44, 45, 46, 47, 48, 49, 50] (by decide +kernel) (by decide +kernel)
set_option maxRecDepth 20000 in
theorem gX4_hub_X4_wrong : GoodIn wsX4_hub (wsV RX4 118 RX4 yX4_wrong wsX4_wrong) := goodIn_app (goodIn_of _ (by decide +kernel)) ggX4_hub_X4_wrong
set_option maxRecDepth 20000 in
theorem ggX4_hub_X4_goes : GoodIn wsX4_hub wsX4_goes := goodIn_r _ [16, 17, 34, 35, 36, 37, 38, 39, 40, 41, 42, 43, 44, 45, 46, 47, 48, 49, 50] (by decide +kernel) (by decide +kernel)
set_option maxRecDepth 20000 in
theorem gX4_hub_X4_goes : GoodIn wsX4_hub (wsV RX4 95 RX4 yX4_goes wsX4_goes) := goodIn_app (goodIn_of _ (by decide +kernel)) ggX4_hub_X4_goes
set_option maxRecDepth 20000 in
theorem ggX4_hub_X4_rankBetween : GoodIn wsX4_hub wsX4_rankBetween := goodIn_r _ [21, 12, 22, 23, 24, 25, 5, 26, 27, 28, 29, 30, 31, 32, 33, 34, 35, 36, 37, 38, 39, 40, 41, 42, 43, 44, 45, 46, 47, 48, 49, 50] (by decide +kernel) (by decide +kernel)
set_option maxRecDepth 20000 in
theorem gX4_hub_X4_rankBetween : GoodIn wsX4_hub (wsV RX4 134 RX4 yX4_rankBetween wsX4_rankBetween) := goodIn_app (goodIn_of _ (by decide +kernel)) ggX4_hub_X4_rankBetween
theorem dX4_hub_0 : decode cX4_hub 0 = .ok (.aload_n 0, 1) := by decide +kernel
theorem dX4_hub_1 : decode cX4_hub 1 = .ok (.aload_n 0, 1) := by decide +kernel
theorem dX4_hub_2 : decode cX4_hub 2 = .ok (.iload_n 1, 1) := by decide +kernel
theorem dX4_hub_3 : decode cX4_hub 3 = .ok (.iload_n 2, 1) := by decide +kernel
theorem dX4_hub_4 : decode cX4_hub 4 = .ok (.invokevirtual 118, 3) := by decide +kernel
theorem dX4_hub_7 : decode cX4_hub 7 = .ok (.invokevirtual 95, 3) := by decide +kernel
theorem dX4_hub_10 : decode cX4_hub 10 = .ok (.ifCond .ne 5, 3) := by decide +kernel
theorem dX4_hub_13 : decode cX4_hub 13 = .ok (.iconst 0, 1) := by decide +kernel
theorem dX4_hub_14 : decode cX4_hub 14 = .ok (.ireturn, 1) := by decide +kernel
theorem dX4_hub_15 : decode cX4_hub 15 = .ok (.aload_n 0, 1) := by decide +kernel
theorem dX4_hub_16 : decode cX4_hub 16 = .ok (.iload_n 1, 1) := by decide +kernel
theorem dX4_hub_17 : decode cX4_hub 17 = .ok (.iload_n 2, 1) := by decide +kernel
theorem dX4_hub_18 : decode cX4_hub 18 = .ok (.invokevirtual 134, 3) := by decide +kernel
theorem dX4_hub_21 : decode cX4_hub 21 = .ok (.istore_n 3, 1) := by decide +kernel
theorem dX4_hub_22 : decode cX4_hub 22 = .ok (.iload_n 3, 1) := by decide +kernel
theorem dX4_hub_23 : decode cX4_hub 23 = .ok (.iconst (-1), 1) := by decide +kernel
theorem dX4_hub_24 : decode cX4_hub 24 = .ok (.if_icmp .ne 7, 3) := by decide +kernel
theorem dX4_hub_27 : decode cX4_hub 27 = .ok (.iconst (-1), 1) := by decide +kernel
theorem dX4_hub_28 : decode cX4_hub 28 = .ok (.goto 9, 3) := by decide +kernel
theorem dX4_hub_31 : decode cX4_hub 31 = .ok (.aload_n 0, 1) := by decide +kernel
theorem dX4_hub_32 : decode cX4_hub 32 = .ok (.getfield 20, 3) := by decide +kernel
theorem dX4_hub_35 : decode cX4_hub 35 = .ok (.iload_n 3, 1) := by decide +kernel
theorem dX4_hub_36 : decode cX4_hub 36 = .ok (.iaload, 1) := by decide +kernel
theorem dX4_hub_37 : decode cX4_hub 37 = .ok (.ireturn, 1) := by decide +kernel
set_option maxRecDepth 20000 in
theorem ggX4_steps_X4_at : GoodIn wsX4_steps wsX4_at := goodIn_r _ [6] (by decide +kernel) (by decide +kernel)
set_option maxRecDepth 20000 in
theorem gX4_steps_X4_at : GoodIn wsX4_steps (va_wsS RX4 42 yX4_at wsX4_at) := goodIn_app (goodIn_of _ (by decide +kernel)) ggX4_steps_X4_at
theorem dX4_steps_0 : decode cX4_steps 0 = .ok (.iconst 0, 1) := by decide +kernel
theorem dX4_steps_1 : decode cX4_steps 1 = .ok (.istore_n 3, 1) := by decide +kernel
theorem dX4_steps_2 : decode cX4_steps 2 = .ok (.iload_n 1, 1) := by decide +kernel
theorem dX4_steps_3 : decode cX4_steps 3 = .ok (.istore 4, 2) := by decide +kernel
theorem dX4_steps_5 : decode cX4_steps 5 = .ok (.iload 4, 2) := by decide +kernel
theorem dX4_steps_7 : decode cX4_steps 7 = .ok (.aload_n 0, 1) := by decide +kernel
theorem dX4_steps_8 : decode cX4_steps 8 = .ok (.getfield 20, 3) := by decide +kernel
theorem dX4_steps_11 : decode cX4_steps 11 = .ok (.iload_n 2, 1) := by decide +kernel
theorem dX4_steps_12 : decode cX4_steps 12 = .ok (.iaload, 1) := by decide +kernel
theorem dX4_steps_13 : decode cX4_steps 13 = .ok (.if_icmp .eq 23, 3) := by decide +kernel
theorem dX4_steps_16 : decode cX4_steps 16 = .ok (.iinc 3 1, 3) := by decide +kernel
theorem dX4_steps_19 : decode cX4_steps 19 = .ok (.aload_n 0, 1) := by decide +kernel
theorem dX4_steps_20 : decode cX4_steps 20 = .ok (.getfield 17, 3) := by decide +kernel
theorem dX4_steps_23 : decode cX4_steps 23 = .ok (.iconst 0, 1) := by decide +kernel
theorem dX4_steps_24 : decode cX4_steps 24 = .ok (.iload 4, 2) := by decide +kernel
theorem dX4_steps_26 : decode cX4_steps 26 = .ok (.iload_n 2, 1) := by decide +kernel
theorem dX4_steps_27 : decode cX4_steps 27 = .ok (.invokestatic 42, 3) := by decide +kernel
theorem dX4_steps_30 : decode cX4_steps 30 = .ok (.iaload, 1) := by decide +kernel
theorem dX4_steps_31 : decode cX4_steps 31 = .ok (.istore 4, 2) := by decide +kernel
theorem dX4_steps_33 : decode cX4_steps 33 = .ok (.goto (-28), 3) := by decide +kernel
theorem dX4_steps_36 : decode cX4_steps 36 = .ok (.iload_n 3, 1) := by decide +kernel
theorem dX4_steps_37 : decode cX4_steps 37 = .ok (.ireturn, 1) := by decide +kernel
set_option maxRecDepth 20000 in
theorem ggX4_stepped_X4_at : GoodIn wsX4_stepped wsX4_at := goodIn_r _ [5] (by decide +kernel) (by decide +kernel)
set_option maxRecDepth 20000 in
theorem gX4_stepped_X4_at : GoodIn wsX4_stepped (va_wsS RX4 42 yX4_at wsX4_at) := goodIn_app (goodIn_of _ (by decide +kernel)) ggX4_stepped_X4_at
theorem dX4_stepped_0 : decode cX4_stepped 0 = .ok (.iload_n 1, 1) := by decide +kernel
theorem dX4_stepped_1 : decode cX4_stepped 1 = .ok (.istore 4, 2) := by decide +kernel
theorem dX4_stepped_3 : decode cX4_stepped 3 = .ok (.iconst 0, 1) := by decide +kernel
theorem dX4_stepped_4 : decode cX4_stepped 4 = .ok (.istore 5, 2) := by decide +kernel
theorem dX4_stepped_6 : decode cX4_stepped 6 = .ok (.iload 5, 2) := by decide +kernel
theorem dX4_stepped_8 : decode cX4_stepped 8 = .ok (.iload_n 3, 1) := by decide +kernel
theorem dX4_stepped_9 : decode cX4_stepped 9 = .ok (.if_icmp .ge 23, 3) := by decide +kernel
theorem dX4_stepped_12 : decode cX4_stepped 12 = .ok (.aload_n 0, 1) := by decide +kernel
theorem dX4_stepped_13 : decode cX4_stepped 13 = .ok (.getfield 17, 3) := by decide +kernel
theorem dX4_stepped_16 : decode cX4_stepped 16 = .ok (.iconst 0, 1) := by decide +kernel
theorem dX4_stepped_17 : decode cX4_stepped 17 = .ok (.iload 4, 2) := by decide +kernel
theorem dX4_stepped_19 : decode cX4_stepped 19 = .ok (.iload_n 2, 1) := by decide +kernel
theorem dX4_stepped_20 : decode cX4_stepped 20 = .ok (.invokestatic 42, 3) := by decide +kernel
theorem dX4_stepped_23 : decode cX4_stepped 23 = .ok (.iaload, 1) := by decide +kernel
theorem dX4_stepped_24 : decode cX4_stepped 24 = .ok (.istore 4, 2) := by decide +kernel
theorem dX4_stepped_26 : decode cX4_stepped 26 = .ok (.iinc 5 1, 3) := by decide +kernel
theorem dX4_stepped_29 : decode cX4_stepped 29 = .ok (.goto (-23), 3) := by decide +kernel
theorem dX4_stepped_32 : decode cX4_stepped 32 = .ok (.iload 4, 2) := by decide +kernel
theorem dX4_stepped_34 : decode cX4_stepped 34 = .ok (.ireturn, 1) := by decide +kernel
set_option maxRecDepth 20000 in
theorem ggX4_pathVertex_X4_wrong : GoodIn wsX4_pathVertex wsX4_wrong := goodIn_r _ [5, 6, 7, 8, 9, 4, 10, 11, 43, 44, 45, 46, 47, 48, 49, 50, 51, 52, 53, 54, 55, 56, 57, 58, 59] (by decide +kernel) (by decide +kernel)
set_option maxRecDepth 20000 in
theorem gX4_pathVertex_X4_wrong : GoodIn wsX4_pathVertex (wsV RX4 118 RX4 yX4_wrong wsX4_wrong) := goodIn_app (goodIn_of _ (by decide +kernel)) ggX4_pathVertex_X4_wrong
set_option maxRecDepth 20000 in
theorem ggX4_pathVertex_X4_goes : GoodIn wsX4_pathVertex wsX4_goes := goodIn_r _ [15, 16, 43, 44, 45, 46, 47, 48, 49, 50, 51, 52, 53, 54, 55, 56, 57, 58, 59] (by decide +kernel) (by decide +kernel)
set_option maxRecDepth 20000 in
theorem gX4_pathVertex_X4_goes : GoodIn wsX4_pathVertex (wsV RX4 95 RX4 yX4_goes wsX4_goes) := goodIn_app (goodIn_of _ (by decide +kernel)) ggX4_pathVertex_X4_goes
set_option maxRecDepth 20000 in
theorem ggX4_pathVertex_X4_rankBetween : GoodIn wsX4_pathVertex wsX4_rankBetween := goodIn_r _ [20, 11, 21, 22, 23, 24, 4, 25, 26, 27, 28, 29, 30, 31, 32, 43, 44, 45, 46, 47, 48, 49, 50, 51, 52, 53, 54, 55, 56, 57, 58, 59] (by decide +kernel) (by decide +kernel)
set_option maxRecDepth 20000 in
theorem gX4_pathVertex_X4_rankBetween : GoodIn wsX4_pathVertex (wsV RX4 134 RX4 yX4_rankBetween wsX4_rankBetween) := goodIn_app (goodIn_of _ (by decide +kernel)) ggX4_pathVertex_X4_rankBetween
set_option maxRecDepth 20000 in
theorem ggX4_pathVertex_X4_steps : GoodIn wsX4_pathVertex wsX4_steps := goodIn_r _ [36, 37, 38, 30, 31, 4, 32, 43, 44, 45, 46, 47, 48, 49, 50, 51, 52, 53, 54, 55, 56, 57, 58, 59] (by decide +kernel) (by decide +kernel)
set_option maxRecDepth 20000 in
theorem gX4_pathVertex_X4_steps : GoodIn wsX4_pathVertex (wsV RX4 137 RX4 yX4_steps wsX4_steps) := goodIn_app (goodIn_of _ (by decide +kernel)) ggX4_pathVertex_X4_steps
set_option maxRecDepth 20000 in
theorem ggX4_pathVertex_X4_stepped : GoodIn wsX4_pathVertex wsX4_stepped := goodIn_r _ [42, 38, 30, 31, 4, 32, 43, 44, 45, 46, 47, 48, 49, 50, 51, 52, 53, 54, 55, 56, 57, 58, 59] (by decide +kernel) (by decide +kernel)
set_option maxRecDepth 20000 in
theorem gX4_pathVertex_X4_stepped : GoodIn wsX4_pathVertex (wsV RX4 140 RX4 yX4_stepped wsX4_stepped) := goodIn_app (goodIn_of _ (by decide +kernel)) ggX4_pathVertex_X4_stepped
theorem dX4_pathVertex_0 : decode cX4_pathVertex 0 = .ok (.aload_n 0, 1) := by decide +kernel
theorem dX4_pathVertex_1 : decode cX4_pathVertex 1 = .ok (.iload_n 1, 1) := by decide +kernel
theorem dX4_pathVertex_2 : decode cX4_pathVertex 2 = .ok (.iload_n 2, 1) := by decide +kernel
theorem dX4_pathVertex_3 : decode cX4_pathVertex 3 = .ok (.invokevirtual 118, 3) := by decide +kernel
theorem dX4_pathVertex_6 : decode cX4_pathVertex 6 = .ok (.istore 4, 2) := by decide +kernel
theorem dX4_pathVertex_8 : decode cX4_pathVertex 8 = .ok (.aload_n 0, 1) := by decide +kernel
theorem dX4_pathVertex_9 : decode cX4_pathVertex 9 = .ok (.iload 4, 2) := by decide +kernel
theorem dX4_pathVertex_11 : decode cX4_pathVertex 11 = .ok (.ifCond .le 8, 3) := by decide +kernel
theorem dX4_pathVertex_14 : decode cX4_pathVertex 14 = .ok (.iload 4, 2) := by decide +kernel
theorem dX4_pathVertex_16 : decode cX4_pathVertex 16 = .ok (.goto 12, 3) := by decide +kernel
theorem dX4_pathVertex_19 : decode cX4_pathVertex 19 = .ok (.iload_n 3, 1) := by decide +kernel
theorem dX4_pathVertex_20 : decode cX4_pathVertex 20 = .ok (.ifCond .ge 7, 3) := by decide +kernel
theorem dX4_pathVertex_23 : decode cX4_pathVertex 23 = .ok (.iconst 3, 1) := by decide +kernel
theorem dX4_pathVertex_24 : decode cX4_pathVertex 24 = .ok (.goto 4, 3) := by decide +kernel
theorem dX4_pathVertex_27 : decode cX4_pathVertex 27 = .ok (.iconst 0, 1) := by decide +kernel
theorem dX4_pathVertex_28 : decode cX4_pathVertex 28 = .ok (.invokevirtual 95, 3) := by decide +kernel
theorem dX4_pathVertex_31 : decode cX4_pathVertex 31 = .ok (.ifCond .ne 5, 3) := by decide +kernel
theorem dX4_pathVertex_34 : decode cX4_pathVertex 34 = .ok (.iconst 0, 1) := by decide +kernel
theorem dX4_pathVertex_35 : decode cX4_pathVertex 35 = .ok (.ireturn, 1) := by decide +kernel
theorem dX4_pathVertex_36 : decode cX4_pathVertex 36 = .ok (.aload_n 0, 1) := by decide +kernel
theorem dX4_pathVertex_37 : decode cX4_pathVertex 37 = .ok (.iload_n 1, 1) := by decide +kernel
theorem dX4_pathVertex_38 : decode cX4_pathVertex 38 = .ok (.iload_n 2, 1) := by decide +kernel
theorem dX4_pathVertex_39 : decode cX4_pathVertex 39 = .ok (.invokevirtual 134, 3) := by decide +kernel
theorem dX4_pathVertex_42 : decode cX4_pathVertex 42 = .ok (.istore 5, 2) := by decide +kernel
theorem dX4_pathVertex_44 : decode cX4_pathVertex 44 = .ok (.iload 5, 2) := by decide +kernel
theorem dX4_pathVertex_46 : decode cX4_pathVertex 46 = .ok (.iconst (-1), 1) := by decide +kernel
theorem dX4_pathVertex_47 : decode cX4_pathVertex 47 = .ok (.if_icmp .ne 5, 3) := by decide +kernel
theorem dX4_pathVertex_50 : decode cX4_pathVertex 50 = .ok (.iconst (-1), 1) := by decide +kernel
theorem dX4_pathVertex_51 : decode cX4_pathVertex 51 = .ok (.ireturn, 1) := by decide +kernel
theorem dX4_pathVertex_52 : decode cX4_pathVertex 52 = .ok (.aload_n 0, 1) := by decide +kernel
theorem dX4_pathVertex_53 : decode cX4_pathVertex 53 = .ok (.iload_n 1, 1) := by decide +kernel
theorem dX4_pathVertex_54 : decode cX4_pathVertex 54 = .ok (.iload 5, 2) := by decide +kernel
theorem dX4_pathVertex_56 : decode cX4_pathVertex 56 = .ok (.invokevirtual 137, 3) := by decide +kernel
theorem dX4_pathVertex_59 : decode cX4_pathVertex 59 = .ok (.istore 6, 2) := by decide +kernel
theorem dX4_pathVertex_61 : decode cX4_pathVertex 61 = .ok (.aload_n 0, 1) := by decide +kernel
theorem dX4_pathVertex_62 : decode cX4_pathVertex 62 = .ok (.iload_n 2, 1) := by decide +kernel
theorem dX4_pathVertex_63 : decode cX4_pathVertex 63 = .ok (.iload 5, 2) := by decide +kernel
theorem dX4_pathVertex_65 : decode cX4_pathVertex 65 = .ok (.invokevirtual 137, 3) := by decide +kernel
theorem dX4_pathVertex_68 : decode cX4_pathVertex 68 = .ok (.istore 7, 2) := by decide +kernel
theorem dX4_pathVertex_70 : decode cX4_pathVertex 70 = .ok (.iload_n 3, 1) := by decide +kernel
theorem dX4_pathVertex_71 : decode cX4_pathVertex 71 = .ok (.iload 6, 2) := by decide +kernel
theorem dX4_pathVertex_73 : decode cX4_pathVertex 73 = .ok (.iload 7, 2) := by decide +kernel
theorem dX4_pathVertex_75 : decode cX4_pathVertex 75 = .ok (.iadd, 1) := by decide +kernel
theorem dX4_pathVertex_76 : decode cX4_pathVertex 76 = .ok (.if_icmp .le 7, 3) := by decide +kernel
theorem dX4_pathVertex_79 : decode cX4_pathVertex 79 = .ok (.iconst (-1), 1) := by decide +kernel
theorem dX4_pathVertex_80 : decode cX4_pathVertex 80 = .ok (.goto 34, 3) := by decide +kernel
theorem dX4_pathVertex_83 : decode cX4_pathVertex 83 = .ok (.iload_n 3, 1) := by decide +kernel
theorem dX4_pathVertex_84 : decode cX4_pathVertex 84 = .ok (.iload 6, 2) := by decide +kernel
theorem dX4_pathVertex_86 : decode cX4_pathVertex 86 = .ok (.if_icmp .gt 14, 3) := by decide +kernel
theorem dX4_pathVertex_89 : decode cX4_pathVertex 89 = .ok (.aload_n 0, 1) := by decide +kernel
theorem dX4_pathVertex_90 : decode cX4_pathVertex 90 = .ok (.iload_n 1, 1) := by decide +kernel
theorem dX4_pathVertex_91 : decode cX4_pathVertex 91 = .ok (.iload 5, 2) := by decide +kernel
theorem dX4_pathVertex_93 : decode cX4_pathVertex 93 = .ok (.iload_n 3, 1) := by decide +kernel
theorem dX4_pathVertex_94 : decode cX4_pathVertex 94 = .ok (.invokevirtual 140, 3) := by decide +kernel
theorem dX4_pathVertex_97 : decode cX4_pathVertex 97 = .ok (.goto 17, 3) := by decide +kernel
theorem dX4_pathVertex_100 : decode cX4_pathVertex 100 = .ok (.aload_n 0, 1) := by decide +kernel
theorem dX4_pathVertex_101 : decode cX4_pathVertex 101 = .ok (.iload_n 2, 1) := by decide +kernel
theorem dX4_pathVertex_102 : decode cX4_pathVertex 102 = .ok (.iload 5, 2) := by decide +kernel
theorem dX4_pathVertex_104 : decode cX4_pathVertex 104 = .ok (.iload 6, 2) := by decide +kernel
theorem dX4_pathVertex_106 : decode cX4_pathVertex 106 = .ok (.iload 7, 2) := by decide +kernel
theorem dX4_pathVertex_108 : decode cX4_pathVertex 108 = .ok (.iadd, 1) := by decide +kernel
theorem dX4_pathVertex_109 : decode cX4_pathVertex 109 = .ok (.iload_n 3, 1) := by decide +kernel
theorem dX4_pathVertex_110 : decode cX4_pathVertex 110 = .ok (.isub, 1) := by decide +kernel
theorem dX4_pathVertex_111 : decode cX4_pathVertex 111 = .ok (.invokevirtual 140, 3) := by decide +kernel
theorem dX4_pathVertex_114 : decode cX4_pathVertex 114 = .ok (.ireturn, 1) := by decide +kernel
set_option maxRecDepth 20000 in
theorem ggX4_within_X4_wrong : GoodIn wsX4_within wsX4_wrong := goodIn_r _ [6, 7, 8, 9, 10, 5, 11, 1, 29, 30, 31, 32, 33, 34, 35, 36, 37, 38, 39, 40, 41, 42, 43, 44, 45] (by decide +kernel) (by decide +kernel)
set_option maxRecDepth 20000 in
theorem gX4_within_X4_wrong : GoodIn wsX4_within (wsV RX4 118 RX4 yX4_wrong wsX4_wrong) := goodIn_app (goodIn_of _ (by decide +kernel)) ggX4_within_X4_wrong
set_option maxRecDepth 20000 in
theorem ggX4_within_X4_goes : GoodIn wsX4_within wsX4_goes := goodIn_r _ [15, 16, 29, 30, 31, 32, 33, 34, 35, 36, 37, 38, 39, 40, 41, 42, 43, 44, 45] (by decide +kernel) (by decide +kernel)
set_option maxRecDepth 20000 in
theorem gX4_within_X4_goes : GoodIn wsX4_within (wsV RX4 95 RX4 yX4_goes wsX4_goes) := goodIn_app (goodIn_of _ (by decide +kernel)) ggX4_within_X4_goes
set_option maxRecDepth 20000 in
theorem ggX4_within_X4_between : GoodIn wsX4_within wsX4_between := goodIn_r _ [20, 1, 21, 22, 23, 5, 24, 25, 26, 27, 28, 29, 30, 31, 32, 33, 34, 35, 36, 37, 38, 39, 40, 41, 42, 43, 44, 45] (by decide +kernel) (by decide +kernel)
set_option maxRecDepth 20000 in
theorem gX4_within_X4_between : GoodIn wsX4_within (wsV RX4 131 RX4 yX4_between wsX4_between) := goodIn_app (goodIn_of _ (by decide +kernel)) ggX4_within_X4_between
theorem dX4_within_0 : decode cX4_within 0 = .ok (.aload_n 0, 1) := by decide +kernel
theorem dX4_within_1 : decode cX4_within 1 = .ok (.iload_n 1, 1) := by decide +kernel
theorem dX4_within_2 : decode cX4_within 2 = .ok (.iload_n 1, 1) := by decide +kernel
theorem dX4_within_3 : decode cX4_within 3 = .ok (.invokevirtual 118, 3) := by decide +kernel
theorem dX4_within_6 : decode cX4_within 6 = .ok (.istore_n 3, 1) := by decide +kernel
theorem dX4_within_7 : decode cX4_within 7 = .ok (.lconst 0, 1) := by decide +kernel
theorem dX4_within_8 : decode cX4_within 8 = .ok (.lstore 4, 2) := by decide +kernel
theorem dX4_within_10 : decode cX4_within 10 = .ok (.aload_n 0, 1) := by decide +kernel
theorem dX4_within_11 : decode cX4_within 11 = .ok (.iload_n 3, 1) := by decide +kernel
theorem dX4_within_12 : decode cX4_within 12 = .ok (.ifCond .le 7, 3) := by decide +kernel
theorem dX4_within_15 : decode cX4_within 15 = .ok (.iload_n 3, 1) := by decide +kernel
theorem dX4_within_16 : decode cX4_within 16 = .ok (.goto 18, 3) := by decide +kernel
theorem dX4_within_19 : decode cX4_within 19 = .ok (.iload_n 2, 1) := by decide +kernel
theorem dX4_within_20 : decode cX4_within 20 = .ok (.ifCond .lt 9, 3) := by decide +kernel
theorem dX4_within_23 : decode cX4_within 23 = .ok (.iload_n 2, 1) := by decide +kernel
theorem dX4_within_24 : decode cX4_within 24 = .ok (.bipush 48, 2) := by decide +kernel
theorem dX4_within_26 : decode cX4_within 26 = .ok (.if_icmp .lt 7, 3) := by decide +kernel
theorem dX4_within_29 : decode cX4_within 29 = .ok (.iconst 3, 1) := by decide +kernel
theorem dX4_within_30 : decode cX4_within 30 = .ok (.goto 4, 3) := by decide +kernel
theorem dX4_within_33 : decode cX4_within 33 = .ok (.iconst 0, 1) := by decide +kernel
theorem dX4_within_34 : decode cX4_within 34 = .ok (.invokevirtual 95, 3) := by decide +kernel
theorem dX4_within_37 : decode cX4_within 37 = .ok (.istore 6, 2) := by decide +kernel
theorem dX4_within_39 : decode cX4_within 39 = .ok (.iconst 0, 1) := by decide +kernel
theorem dX4_within_40 : decode cX4_within 40 = .ok (.istore 7, 2) := by decide +kernel
theorem dX4_within_42 : decode cX4_within 42 = .ok (.iload 7, 2) := by decide +kernel
theorem dX4_within_44 : decode cX4_within 44 = .ok (.aload_n 0, 1) := by decide +kernel
theorem dX4_within_45 : decode cX4_within 45 = .ok (.getfield 39, 3) := by decide +kernel
theorem dX4_within_48 : decode cX4_within 48 = .ok (.if_icmp .ge 48, 3) := by decide +kernel
theorem dX4_within_51 : decode cX4_within 51 = .ok (.iload 6, 2) := by decide +kernel
theorem dX4_within_53 : decode cX4_within 53 = .ok (.ifCond .eq 43, 3) := by decide +kernel
theorem dX4_within_56 : decode cX4_within 56 = .ok (.aload_n 0, 1) := by decide +kernel
theorem dX4_within_57 : decode cX4_within 57 = .ok (.iload_n 1, 1) := by decide +kernel
theorem dX4_within_58 : decode cX4_within 58 = .ok (.iload 7, 2) := by decide +kernel
theorem dX4_within_60 : decode cX4_within 60 = .ok (.invokevirtual 131, 3) := by decide +kernel
theorem dX4_within_63 : decode cX4_within 63 = .ok (.istore 8, 2) := by decide +kernel
theorem dX4_within_65 : decode cX4_within 65 = .ok (.lload 4, 2) := by decide +kernel
theorem dX4_within_67 : decode cX4_within 67 = .ok (.iload 8, 2) := by decide +kernel
theorem dX4_within_69 : decode cX4_within 69 = .ok (.iconst (-1), 1) := by decide +kernel
theorem dX4_within_70 : decode cX4_within 70 = .ok (.if_icmp .eq 16, 3) := by decide +kernel
theorem dX4_within_73 : decode cX4_within 73 = .ok (.iload 8, 2) := by decide +kernel
theorem dX4_within_75 : decode cX4_within 75 = .ok (.iload_n 2, 1) := by decide +kernel
theorem dX4_within_76 : decode cX4_within 76 = .ok (.if_icmp .gt 10, 3) := by decide +kernel
theorem dX4_within_79 : decode cX4_within 79 = .ok (.lconst 1, 1) := by decide +kernel
theorem dX4_within_80 : decode cX4_within 80 = .ok (.iload 7, 2) := by decide +kernel
theorem dX4_within_82 : decode cX4_within 82 = .ok (.lshl, 1) := by decide +kernel
theorem dX4_within_83 : decode cX4_within 83 = .ok (.goto 4, 3) := by decide +kernel
theorem dX4_within_86 : decode cX4_within 86 = .ok (.lconst 0, 1) := by decide +kernel
theorem dX4_within_87 : decode cX4_within 87 = .ok (.lor, 1) := by decide +kernel
theorem dX4_within_88 : decode cX4_within 88 = .ok (.lstore 4, 2) := by decide +kernel
theorem dX4_within_90 : decode cX4_within 90 = .ok (.iinc 7 1, 3) := by decide +kernel
theorem dX4_within_93 : decode cX4_within 93 = .ok (.goto (-51), 3) := by decide +kernel
theorem dX4_within_96 : decode cX4_within 96 = .ok (.lload 4, 2) := by decide +kernel
theorem dX4_within_98 : decode cX4_within 98 = .ok (.lreturn, 1) := by decide +kernel
set_option maxRecDepth 20000 in
theorem ggX4_eccentricity_X4_wrong : GoodIn wsX4_eccentricity wsX4_wrong := goodIn_r _ [6, 7, 8, 9, 10, 5, 11, 1, 29, 30, 31, 32, 33, 34, 35, 36, 37, 38, 39, 40, 41, 42, 43, 44, 45] (by decide +kernel) (by decide +kernel)
set_option maxRecDepth 20000 in
theorem gX4_eccentricity_X4_wrong : GoodIn wsX4_eccentricity (wsV RX4 118 RX4 yX4_wrong wsX4_wrong) := goodIn_app (goodIn_of _ (by decide +kernel)) ggX4_eccentricity_X4_wrong
set_option maxRecDepth 20000 in
theorem ggX4_eccentricity_X4_goes : GoodIn wsX4_eccentricity wsX4_goes := goodIn_r _ [15, 16, 29, 30, 31, 32, 33, 34, 35, 36, 37, 38, 39, 40, 41, 42, 43, 44, 45] (by decide +kernel) (by decide +kernel)
set_option maxRecDepth 20000 in
theorem gX4_eccentricity_X4_goes : GoodIn wsX4_eccentricity (wsV RX4 95 RX4 yX4_goes wsX4_goes) := goodIn_app (goodIn_of _ (by decide +kernel)) ggX4_eccentricity_X4_goes
set_option maxRecDepth 20000 in
theorem ggX4_eccentricity_X4_between : GoodIn wsX4_eccentricity wsX4_between := goodIn_r _ [20, 1, 21, 22, 23, 5, 24, 25, 26, 27, 28, 29, 30, 31, 32, 33, 34, 35, 36, 37, 38, 39, 40, 41, 42, 43, 44, 45] (by decide +kernel) (by decide +kernel)
set_option maxRecDepth 20000 in
theorem gX4_eccentricity_X4_between : GoodIn wsX4_eccentricity (wsV RX4 131 RX4 yX4_between wsX4_between) := goodIn_app (goodIn_of _ (by decide +kernel)) ggX4_eccentricity_X4_between
theorem dX4_eccentricity_0 : decode cX4_eccentricity 0 = .ok (.iconst 0, 1) := by decide +kernel
theorem dX4_eccentricity_1 : decode cX4_eccentricity 1 = .ok (.istore_n 2, 1) := by decide +kernel
theorem dX4_eccentricity_2 : decode cX4_eccentricity 2 = .ok (.aload_n 0, 1) := by decide +kernel
theorem dX4_eccentricity_3 : decode cX4_eccentricity 3 = .ok (.aload_n 0, 1) := by decide +kernel
theorem dX4_eccentricity_4 : decode cX4_eccentricity 4 = .ok (.iload_n 1, 1) := by decide +kernel
theorem dX4_eccentricity_5 : decode cX4_eccentricity 5 = .ok (.iload_n 1, 1) := by decide +kernel
theorem dX4_eccentricity_6 : decode cX4_eccentricity 6 = .ok (.invokevirtual 118, 3) := by decide +kernel
theorem dX4_eccentricity_9 : decode cX4_eccentricity 9 = .ok (.invokevirtual 95, 3) := by decide +kernel
theorem dX4_eccentricity_12 : decode cX4_eccentricity 12 = .ok (.istore_n 3, 1) := by decide +kernel
theorem dX4_eccentricity_13 : decode cX4_eccentricity 13 = .ok (.iconst 0, 1) := by decide +kernel
theorem dX4_eccentricity_14 : decode cX4_eccentricity 14 = .ok (.istore 4, 2) := by decide +kernel
theorem dX4_eccentricity_16 : decode cX4_eccentricity 16 = .ok (.iload 4, 2) := by decide +kernel
theorem dX4_eccentricity_18 : decode cX4_eccentricity 18 = .ok (.aload_n 0, 1) := by decide +kernel
theorem dX4_eccentricity_19 : decode cX4_eccentricity 19 = .ok (.getfield 39, 3) := by decide +kernel
theorem dX4_eccentricity_22 : decode cX4_eccentricity 22 = .ok (.if_icmp .ge 35, 3) := by decide +kernel
theorem dX4_eccentricity_25 : decode cX4_eccentricity 25 = .ok (.iload_n 3, 1) := by decide +kernel
theorem dX4_eccentricity_26 : decode cX4_eccentricity 26 = .ok (.ifCond .eq 31, 3) := by decide +kernel
theorem dX4_eccentricity_29 : decode cX4_eccentricity 29 = .ok (.aload_n 0, 1) := by decide +kernel
theorem dX4_eccentricity_30 : decode cX4_eccentricity 30 = .ok (.iload_n 1, 1) := by decide +kernel
theorem dX4_eccentricity_31 : decode cX4_eccentricity 31 = .ok (.iload 4, 2) := by decide +kernel
theorem dX4_eccentricity_33 : decode cX4_eccentricity 33 = .ok (.invokevirtual 131, 3) := by decide +kernel
theorem dX4_eccentricity_36 : decode cX4_eccentricity 36 = .ok (.istore 5, 2) := by decide +kernel
theorem dX4_eccentricity_38 : decode cX4_eccentricity 38 = .ok (.iload 5, 2) := by decide +kernel
theorem dX4_eccentricity_40 : decode cX4_eccentricity 40 = .ok (.iload_n 2, 1) := by decide +kernel
theorem dX4_eccentricity_41 : decode cX4_eccentricity 41 = .ok (.if_icmp .le 8, 3) := by decide +kernel
theorem dX4_eccentricity_44 : decode cX4_eccentricity 44 = .ok (.iload 5, 2) := by decide +kernel
theorem dX4_eccentricity_46 : decode cX4_eccentricity 46 = .ok (.goto 4, 3) := by decide +kernel
theorem dX4_eccentricity_49 : decode cX4_eccentricity 49 = .ok (.iload_n 2, 1) := by decide +kernel
theorem dX4_eccentricity_50 : decode cX4_eccentricity 50 = .ok (.istore_n 2, 1) := by decide +kernel
theorem dX4_eccentricity_51 : decode cX4_eccentricity 51 = .ok (.iinc 4 1, 3) := by decide +kernel
theorem dX4_eccentricity_54 : decode cX4_eccentricity 54 = .ok (.goto (-38), 3) := by decide +kernel
theorem dX4_eccentricity_57 : decode cX4_eccentricity 57 = .ok (.iload_n 2, 1) := by decide +kernel
theorem dX4_eccentricity_58 : decode cX4_eccentricity 58 = .ok (.ireturn, 1) := by decide +kernel
theorem dX4_pruned_0 : decode cX4_pruned 0 = .ok (.aload_n 0, 1) := by decide +kernel
theorem dX4_pruned_1 : decode cX4_pruned 1 = .ok (.iconst 0, 1) := by decide +kernel
theorem dX4_pruned_2 : decode cX4_pruned 2 = .ok (.putfield 35, 3) := by decide +kernel
theorem dX4_pruned_5 : decode cX4_pruned 5 = .ok (.aload_n 0, 1) := by decide +kernel
theorem dX4_pruned_6 : decode cX4_pruned 6 = .ok (.getfield 85, 3) := by decide +kernel
theorem dX4_pruned_9 : decode cX4_pruned 9 = .ok (.ireturn, 1) := by decide +kernel
theorem dX4_written_0 : decode cX4_written 0 = .ok (.aload_n 0, 1) := by decide +kernel
theorem dX4_written_1 : decode cX4_written 1 = .ok (.iconst 0, 1) := by decide +kernel
theorem dX4_written_2 : decode cX4_written 2 = .ok (.putfield 35, 3) := by decide +kernel
theorem dX4_written_5 : decode cX4_written 5 = .ok (.aload_n 0, 1) := by decide +kernel
theorem dX4_written_6 : decode cX4_written 6 = .ok (.getfield 88, 3) := by decide +kernel
theorem dX4_written_9 : decode cX4_written 9 = .ok (.ireturn, 1) := by decide +kernel
