set_option maxRecDepth 20000 in
theorem ggX3_init_X0_init : GoodIn wsX3_init wsX0_init := goodIn_r _ [21, 22, 2, 3, 23, 24, 25, 26, 52, 53, 54] (by decide +kernel) (by decide +kernel)
set_option maxRecDepth 20000 in
theorem gX3_init_X0_init : GoodIn wsX3_init (wsX0_init) := ggX3_init_X0_init
set_option maxRecDepth 20000 in
theorem ggX3_init_X1_init : GoodIn wsX3_init wsX1_init := goodIn_r _ [29, 30, 2, 3, 31, 32, 33, 34, 23, 35, 36, 37, 61, 62, 63, 64, 65, 66] (by decide +kernel) (by decide +kernel)
set_option maxRecDepth 20000 in
theorem gX3_init_X1_init : GoodIn wsX3_init (wsX1_init) := ggX3_init_X1_init
set_option maxRecDepth 20000 in
theorem ggX3_init_X2_init : GoodIn wsX3_init wsX2_init := goodIn_r _ [40, 41, 2, 3, 42, 43, 31, 44, 45, 46, 47, 48, 49, 50, 51, 67, 68, 69, 70, 71, 72, 73, 74, 75, 76] (by decide +kernel) (by decide +kernel)
set_option maxRecDepth 20000 in
theorem gX3_init_X2_init : GoodIn wsX3_init (wsX2_init) := ggX3_init_X2_init
theorem dX3_init_0 : decode cX3_init 0 = .ok (.aload_n 0, 1) := by decide +kernel
theorem dX3_init_1 : decode cX3_init 1 = .ok (.invokespecial 1, 3) := by decide +kernel
theorem dX3_init_4 : decode cX3_init 4 = .ok (.aload_n 0, 1) := by decide +kernel
theorem dX3_init_5 : decode cX3_init 5 = .ok (.new 7, 3) := by decide +kernel
theorem dX3_init_8 : decode cX3_init 8 = .ok (.dup, 1) := by decide +kernel
theorem dX3_init_9 : decode cX3_init 9 = .ok (.invokespecial 9, 3) := by decide +kernel
theorem dX3_init_12 : decode cX3_init 12 = .ok (.putfield 10, 3) := by decide +kernel
theorem dX3_init_15 : decode cX3_init 15 = .ok (.aload_n 0, 1) := by decide +kernel
theorem dX3_init_16 : decode cX3_init 16 = .ok (.new 16, 3) := by decide +kernel
theorem dX3_init_19 : decode cX3_init 19 = .ok (.dup, 1) := by decide +kernel
theorem dX3_init_20 : decode cX3_init 20 = .ok (.invokespecial 18, 3) := by decide +kernel
theorem dX3_init_23 : decode cX3_init 23 = .ok (.putfield 19, 3) := by decide +kernel
theorem dX3_init_26 : decode cX3_init 26 = .ok (.aload_n 0, 1) := by decide +kernel
theorem dX3_init_27 : decode cX3_init 27 = .ok (.new 23, 3) := by decide +kernel
theorem dX3_init_30 : decode cX3_init 30 = .ok (.dup, 1) := by decide +kernel
theorem dX3_init_31 : decode cX3_init 31 = .ok (.aload_n 0, 1) := by decide +kernel
theorem dX3_init_32 : decode cX3_init 32 = .ok (.getfield 10, 3) := by decide +kernel
theorem dX3_init_35 : decode cX3_init 35 = .ok (.aload_n 0, 1) := by decide +kernel
theorem dX3_init_36 : decode cX3_init 36 = .ok (.getfield 19, 3) := by decide +kernel
theorem dX3_init_39 : decode cX3_init 39 = .ok (.invokespecial 25, 3) := by decide +kernel
theorem dX3_init_42 : decode cX3_init 42 = .ok (.putfield 28, 3) := by decide +kernel
theorem dX3_init_45 : decode cX3_init 45 = .ok (.aload_n 0, 1) := by decide +kernel
theorem dX3_init_46 : decode cX3_init 46 = .ok (.new 16, 3) := by decide +kernel
theorem dX3_init_49 : decode cX3_init 49 = .ok (.dup, 1) := by decide +kernel
theorem dX3_init_50 : decode cX3_init 50 = .ok (.invokespecial 18, 3) := by decide +kernel
theorem dX3_init_53 : decode cX3_init 53 = .ok (.putfield 32, 3) := by decide +kernel
theorem dX3_init_56 : decode cX3_init 56 = .ok (.aload_n 0, 1) := by decide +kernel
theorem dX3_init_57 : decode cX3_init 57 = .ok (.new 23, 3) := by decide +kernel
theorem dX3_init_60 : decode cX3_init 60 = .ok (.dup, 1) := by decide +kernel
theorem dX3_init_61 : decode cX3_init 61 = .ok (.aload_n 0, 1) := by decide +kernel
theorem dX3_init_62 : decode cX3_init 62 = .ok (.getfield 10, 3) := by decide +kernel
theorem dX3_init_65 : decode cX3_init 65 = .ok (.aload_n 0, 1) := by decide +kernel
theorem dX3_init_66 : decode cX3_init 66 = .ok (.getfield 32, 3) := by decide +kernel
theorem dX3_init_69 : decode cX3_init 69 = .ok (.invokespecial 25, 3) := by decide +kernel
theorem dX3_init_72 : decode cX3_init 72 = .ok (.putfield 35, 3) := by decide +kernel
theorem dX3_init_75 : decode cX3_init 75 = .ok (.aload_n 0, 1) := by decide +kernel
theorem dX3_init_76 : decode cX3_init 76 = .ok (.iconst 0, 1) := by decide +kernel
theorem dX3_init_77 : decode cX3_init 77 = .ok (.putfield 38, 3) := by decide +kernel
theorem dX3_init_80 : decode cX3_init 80 = .ok (.return_, 1) := by decide +kernel
set_option maxRecDepth 20000 in
theorem ggX3_addVertex_X3_requireRoomFor : GoodIn wsX3_addVertex wsX3_requireRoomFor := goodIn_ca (goodIn_r _ [5, 6, 7, 8, 9, 10, 11, 12, 13, 14, 46, 47, 48, 49, 50, 51, 52, 53, 54] (by decide +kernel) (by decide +kernel)) (goodIn_sub (fun _ h => List.mem_cons_of_mem _ (List.mem_append_right _ h)) (by decide +kernel))
set_option maxRecDepth 20000 in
theorem gX3_addVertex_X3_requireRoomFor : GoodIn wsX3_addVertex (wsV RX3 42 RX3 yX3_requireRoomFor wsX3_requireRoomFor) := goodIn_app (goodIn_of _ (by decide +kernel)) ggX3_addVertex_X3_requireRoomFor
set_option maxRecDepth 20000 in
theorem ggX3_addVertex_X3_appendVertex : GoodIn wsX3_addVertex wsX3_appendVertex := goodIn_r _ [18, 8, 19, 20, 21, 22, 23, 12, 24, 14, 25, 26, 27, 28, 29, 30, 31, 32, 33, 4, 34, 35, 36, 37, 38, 39, 40, 41, 42, 43, 44, 45, 46, 47, 48, 49, 50, 51, 52, 53, 54, 55, 56, 57, 58, 59, 60] (by decide +kernel) (by decide +kernel)
set_option maxRecDepth 20000 in
theorem gX3_addVertex_X3_appendVertex : GoodIn wsX3_addVertex (wsV RX3 46 RX3 yX3_appendVertex wsX3_appendVertex) := goodIn_app (goodIn_of _ (by decide +kernel)) ggX3_addVertex_X3_appendVertex
theorem dX3_addVertex_0 : decode cX3_addVertex 0 = .ok (.aload_n 0, 1) := by decide +kernel
theorem dX3_addVertex_1 : decode cX3_addVertex 1 = .ok (.iconst 1, 1) := by decide +kernel
theorem dX3_addVertex_2 : decode cX3_addVertex 2 = .ok (.invokevirtual 42, 3) := by decide +kernel
theorem dX3_addVertex_5 : decode cX3_addVertex 5 = .ok (.aload_n 0, 1) := by decide +kernel
theorem dX3_addVertex_6 : decode cX3_addVertex 6 = .ok (.invokevirtual 46, 3) := by decide +kernel
theorem dX3_addVertex_9 : decode cX3_addVertex 9 = .ok (.ireturn, 1) := by decide +kernel
set_option maxRecDepth 20000 in
theorem ggX3_addVertices_X3_requireRoomFor : GoodIn wsX3_addVertices wsX3_requireRoomFor := goodIn_ca (goodIn_r _ [8, 9, 10, 3, 11, 12, 13, 14, 15, 16, 48, 49, 50, 51, 52, 53, 54, 55, 56] (by decide +kernel) (by decide +kernel)) (goodIn_sub (fun _ h => List.mem_cons_of_mem _ (List.mem_append_right _ h)) (by decide +kernel))
set_option maxRecDepth 20000 in
theorem gX3_addVertices_X3_requireRoomFor : GoodIn wsX3_addVertices (wsV RX3 42 RX3 yX3_requireRoomFor wsX3_requireRoomFor) := goodIn_app (goodIn_of _ (by decide +kernel)) ggX3_addVertices_X3_requireRoomFor
set_option maxRecDepth 20000 in
theorem ggX3_addVertices_X3_appendVertex : GoodIn wsX3_addVertices wsX3_appendVertex := goodIn_r _ [20, 3, 21, 22, 23, 24, 25, 14, 26, 16, 27, 28, 29, 30, 31, 32, 33, 34, 35, 7, 36, 37, 38, 39, 40, 41, 42, 43, 44, 45, 46, 47, 48, 49, 50, 51, 52, 53, 54, 55, 56, 57, 58, 59, 60, 61, 62] (by decide +kernel) (by decide +kernel)
set_option maxRecDepth 20000 in
theorem gX3_addVertices_X3_appendVertex : GoodIn wsX3_addVertices (wsV RX3 46 RX3 yX3_appendVertex wsX3_appendVertex) := goodIn_app (goodIn_of _ (by decide +kernel)) ggX3_addVertices_X3_appendVertex
set_option maxRecDepth 20000 in
theorem ggX3_addVertices_X0_size : GoodIn wsX3_addVertices wsX0_size := goodIn_r _ [15, 16, 54, 55, 56] (by decide +kernel) (by decide +kernel)
set_option maxRecDepth 20000 in
theorem gX3_addVertices_X0_size : GoodIn wsX3_addVertices (wsV RX3 57 RX0 yX0_size wsX0_size) := goodIn_app (goodIn_of _ (by decide +kernel)) ggX3_addVertices_X0_size
theorem dX3_addVertices_0 : decode cX3_addVertices 0 = .ok (.iload_n 1, 1) := by decide +kernel
theorem dX3_addVertices_1 : decode cX3_addVertices 1 = .ok (.iconst 1, 1) := by decide +kernel
theorem dX3_addVertices_2 : decode cX3_addVertices 2 = .ok (.if_icmp .lt 9, 3) := by decide +kernel
theorem dX3_addVertices_5 : decode cX3_addVertices 5 = .ok (.iload_n 1, 1) := by decide +kernel
theorem dX3_addVertices_6 : decode cX3_addVertices 6 = .ok (.bipush 48, 2) := by decide +kernel
theorem dX3_addVertices_8 : decode cX3_addVertices 8 = .ok (.if_icmp .le 13, 3) := by decide +kernel
theorem dX3_addVertices_11 : decode cX3_addVertices 11 = .ok (.new 50, 3) := by decide +kernel
theorem dX3_addVertices_14 : decode cX3_addVertices 14 = .ok (.dup, 1) := by decide +kernel
theorem dX3_addVertices_15 : decode cX3_addVertices 15 = .ok (.ldc 52, 2) := by decide +kernel
theorem dX3_addVertices_17 : decode cX3_addVertices 17 = .ok (.invokespecial 54, 3) := by decide +kernel
theorem dX3_addVertices_20 : decode cX3_addVertices 20 = .ok (.athrow, 1) := by decide +kernel
theorem dX3_addVertices_21 : decode cX3_addVertices 21 = .ok (.aload_n 0, 1) := by decide +kernel
theorem dX3_addVertices_22 : decode cX3_addVertices 22 = .ok (.iload_n 1, 1) := by decide +kernel
theorem dX3_addVertices_23 : decode cX3_addVertices 23 = .ok (.invokevirtual 42, 3) := by decide +kernel
theorem dX3_addVertices_26 : decode cX3_addVertices 26 = .ok (.iconst 0, 1) := by decide +kernel
theorem dX3_addVertices_27 : decode cX3_addVertices 27 = .ok (.istore_n 2, 1) := by decide +kernel
theorem dX3_addVertices_28 : decode cX3_addVertices 28 = .ok (.iload_n 2, 1) := by decide +kernel
theorem dX3_addVertices_29 : decode cX3_addVertices 29 = .ok (.iload_n 1, 1) := by decide +kernel
theorem dX3_addVertices_30 : decode cX3_addVertices 30 = .ok (.if_icmp .ge 14, 3) := by decide +kernel
theorem dX3_addVertices_33 : decode cX3_addVertices 33 = .ok (.aload_n 0, 1) := by decide +kernel
theorem dX3_addVertices_34 : decode cX3_addVertices 34 = .ok (.invokevirtual 46, 3) := by decide +kernel
theorem dX3_addVertices_37 : decode cX3_addVertices 37 = .ok (.pop, 1) := by decide +kernel
theorem dX3_addVertices_38 : decode cX3_addVertices 38 = .ok (.iinc 2 1, 3) := by decide +kernel
theorem dX3_addVertices_41 : decode cX3_addVertices 41 = .ok (.goto (-13), 3) := by decide +kernel
theorem dX3_addVertices_44 : decode cX3_addVertices 44 = .ok (.aload_n 0, 1) := by decide +kernel
theorem dX3_addVertices_45 : decode cX3_addVertices 45 = .ok (.getfield 10, 3) := by decide +kernel
theorem dX3_addVertices_48 : decode cX3_addVertices 48 = .ok (.invokevirtual 57, 3) := by decide +kernel
theorem dX3_addVertices_51 : decode cX3_addVertices 51 = .ok (.ireturn, 1) := by decide +kernel
set_option maxRecDepth 20000 in
theorem ggX3_addEdge_X3_requireVertex : GoodIn wsX3_addEdge wsX3_requireVertex := goodIn_ca (goodIn_r _ [10, 11, 12, 3, 13, 14, 15, 16, 17, 18, 107, 108, 109, 110, 111, 112, 113, 114, 115] (by decide +kernel) (by decide +kernel)) (goodIn_sub (fun _ h => List.mem_cons_of_mem _ (List.mem_append_right _ h)) (by decide +kernel))
set_option maxRecDepth 20000 in
theorem gX3_addEdge_X3_requireVertex : GoodIn wsX3_addEdge (wsV RX3 60 RX3 yX3_requireVertex wsX3_requireVertex) := goodIn_app (goodIn_of _ (by decide +kernel)) ggX3_addEdge_X3_requireVertex
set_option maxRecDepth 20000 in
theorem ggX3_addEdge_X0_joins : GoodIn wsX3_addEdge wsX0_joins := goodIn_r _ [22, 23, 9, 24, 25, 26, 27, 16, 28, 29, 30, 31, 113, 114, 115] (by decide +kernel) (by decide +kernel)
set_option maxRecDepth 20000 in
theorem gX3_addEdge_X0_joins : GoodIn wsX3_addEdge (wsV RX3 63 RX0 yX0_joins wsX0_joins) := goodIn_app (goodIn_of _ (by decide +kernel)) ggX3_addEdge_X0_joins
set_option maxRecDepth 20000 in
theorem ggX3_addEdge_X0_join : GoodIn wsX3_addEdge wsX0_join := goodIn_r _ [35, 29, 36, 23, 9, 24, 113, 114, 115] (by decide +kernel) (by decide +kernel)
set_option maxRecDepth 20000 in
theorem gX3_addEdge_X0_join : GoodIn wsX3_addEdge (wsV RX3 72 RX0 yX0_join wsX0_join) := goodIn_app (goodIn_of _ (by decide +kernel)) ggX3_addEdge_X0_join
set_option maxRecDepth 20000 in
theorem ggX3_addEdge_X2_extend : GoodIn wsX3_addEdge wsX2_extend := goodIn_r _ [41, 42, 43, 44, 45, 46, 47, 40, 48, 49, 50, 51, 52, 53, 16, 54, 18, 55, 56, 57, 58, 59, 60, 61, 62, 63, 64, 65, 23, 9, 24, 30, 31, 66, 67, 68, 69, 70, 71, 72, 73, 74, 75, 76, 77, 78, 79, 80, 81, 82, 83, 84, 85, 86, 87, 88, 89, 90, 91, 92, 93, 94, 95, 96, 97, 98, 99, 100, 101, 102, 103, 104, 105, 106, 26, 27, 28, 29, 116, 117, 118, 119, 120, 121, 122, 123, 124, 125, 113, 114, 115, 126, 127, 128, 129, 130, 131] (by decide +kernel) (by decide +kernel)
set_option maxRecDepth 20000 in
theorem gX3_addEdge_X2_extend : GoodIn wsX3_addEdge (wsV RX3 76 RX2 yX2_extend wsX2_extend) := goodIn_app (goodIn_of _ (by decide +kernel)) ggX3_addEdge_X2_extend
theorem dX3_addEdge_0 : decode cX3_addEdge 0 = .ok (.aload_n 0, 1) := by decide +kernel
theorem dX3_addEdge_1 : decode cX3_addEdge 1 = .ok (.iload_n 1, 1) := by decide +kernel
theorem dX3_addEdge_2 : decode cX3_addEdge 2 = .ok (.invokevirtual 60, 3) := by decide +kernel
theorem dX3_addEdge_5 : decode cX3_addEdge 5 = .ok (.aload_n 0, 1) := by decide +kernel
theorem dX3_addEdge_6 : decode cX3_addEdge 6 = .ok (.iload_n 2, 1) := by decide +kernel
theorem dX3_addEdge_7 : decode cX3_addEdge 7 = .ok (.invokevirtual 60, 3) := by decide +kernel
theorem dX3_addEdge_10 : decode cX3_addEdge 10 = .ok (.iload_n 1, 1) := by decide +kernel
theorem dX3_addEdge_11 : decode cX3_addEdge 11 = .ok (.iload_n 2, 1) := by decide +kernel
theorem dX3_addEdge_12 : decode cX3_addEdge 12 = .ok (.if_icmp .eq 15, 3) := by decide +kernel
theorem dX3_addEdge_15 : decode cX3_addEdge 15 = .ok (.aload_n 0, 1) := by decide +kernel
theorem dX3_addEdge_16 : decode cX3_addEdge 16 = .ok (.getfield 10, 3) := by decide +kernel
theorem dX3_addEdge_19 : decode cX3_addEdge 19 = .ok (.iload_n 1, 1) := by decide +kernel
theorem dX3_addEdge_20 : decode cX3_addEdge 20 = .ok (.iload_n 2, 1) := by decide +kernel
theorem dX3_addEdge_21 : decode cX3_addEdge 21 = .ok (.invokevirtual 63, 3) := by decide +kernel
theorem dX3_addEdge_24 : decode cX3_addEdge 24 = .ok (.ifCond .eq 13, 3) := by decide +kernel
theorem dX3_addEdge_27 : decode cX3_addEdge 27 = .ok (.new 67, 3) := by decide +kernel
theorem dX3_addEdge_30 : decode cX3_addEdge 30 = .ok (.dup, 1) := by decide +kernel
theorem dX3_addEdge_31 : decode cX3_addEdge 31 = .ok (.ldc 69, 2) := by decide +kernel
theorem dX3_addEdge_33 : decode cX3_addEdge 33 = .ok (.invokespecial 71, 3) := by decide +kernel
theorem dX3_addEdge_36 : decode cX3_addEdge 36 = .ok (.athrow, 1) := by decide +kernel
theorem dX3_addEdge_37 : decode cX3_addEdge 37 = .ok (.aload_n 0, 1) := by decide +kernel
theorem dX3_addEdge_38 : decode cX3_addEdge 38 = .ok (.getfield 10, 3) := by decide +kernel
theorem dX3_addEdge_41 : decode cX3_addEdge 41 = .ok (.iload_n 1, 1) := by decide +kernel
theorem dX3_addEdge_42 : decode cX3_addEdge 42 = .ok (.iload_n 2, 1) := by decide +kernel
theorem dX3_addEdge_43 : decode cX3_addEdge 43 = .ok (.invokevirtual 72, 3) := by decide +kernel
theorem dX3_addEdge_46 : decode cX3_addEdge 46 = .ok (.aload_n 0, 1) := by decide +kernel
theorem dX3_addEdge_47 : decode cX3_addEdge 47 = .ok (.getfield 38, 3) := by decide +kernel
theorem dX3_addEdge_50 : decode cX3_addEdge 50 = .ok (.ifCond .eq 15, 3) := by decide +kernel
theorem dX3_addEdge_53 : decode cX3_addEdge 53 = .ok (.aload_n 0, 1) := by decide +kernel
theorem dX3_addEdge_54 : decode cX3_addEdge 54 = .ok (.getfield 28, 3) := by decide +kernel
theorem dX3_addEdge_57 : decode cX3_addEdge 57 = .ok (.iload_n 1, 1) := by decide +kernel
theorem dX3_addEdge_58 : decode cX3_addEdge 58 = .ok (.iload_n 2, 1) := by decide +kernel
theorem dX3_addEdge_59 : decode cX3_addEdge 59 = .ok (.invokevirtual 76, 3) := by decide +kernel
theorem dX3_addEdge_62 : decode cX3_addEdge 62 = .ok (.goto 4, 3) := by decide +kernel
theorem dX3_addEdge_65 : decode cX3_addEdge 65 = .ok (.iconst 0, 1) := by decide +kernel
theorem dX3_addEdge_66 : decode cX3_addEdge 66 = .ok (.ireturn, 1) := by decide +kernel
set_option maxRecDepth 20000 in
theorem ggX3_clear_X0_countOfEdges : GoodIn wsX3_clear wsX0_countOfEdges := goodIn_r _ [9, 10, 37, 38, 39] (by decide +kernel) (by decide +kernel)
set_option maxRecDepth 20000 in
theorem gX3_clear_X0_countOfEdges : GoodIn wsX3_clear (wsV RX3 80 RX0 yX0_countOfEdges wsX0_countOfEdges) := goodIn_app (goodIn_of _ (by decide +kernel)) ggX3_clear_X0_countOfEdges
set_option maxRecDepth 20000 in
theorem ggX3_clear_X0_cutAll : GoodIn wsX3_clear wsX0_cutAll := goodIn_r _ [14, 15, 10, 37, 38, 39] (by decide +kernel) (by decide +kernel)
set_option maxRecDepth 20000 in
theorem gX3_clear_X0_cutAll : GoodIn wsX3_clear (wsV RX3 83 RX0 yX0_cutAll wsX0_cutAll) := goodIn_app (goodIn_of _ (by decide +kernel)) ggX3_clear_X0_cutAll
set_option maxRecDepth 20000 in
theorem ggX3_clear_X1_forget : GoodIn wsX3_clear wsX1_forget := goodIn_r _ [20, 21, 22, 40, 41, 42, 43, 44, 45] (by decide +kernel) (by decide +kernel)
set_option maxRecDepth 20000 in
theorem gX3_clear_X1_forget : GoodIn wsX3_clear (wsV RX3 86 RX1 yX1_forget wsX1_forget) := goodIn_app (goodIn_of _ (by decide +kernel)) ggX3_clear_X1_forget
set_option maxRecDepth 20000 in
theorem ggX3_clear_X2_forgetCounts : GoodIn wsX3_clear wsX2_forgetCounts := goodIn_r _ [27, 28, 29, 30, 46, 47, 48, 49, 50, 51, 52, 53, 54, 55] (by decide +kernel) (by decide +kernel)
set_option maxRecDepth 20000 in
theorem gX3_clear_X2_forgetCounts : GoodIn wsX3_clear (wsV RX3 89 RX2 yX2_forgetCounts wsX2_forgetCounts) := goodIn_app (goodIn_of _ (by decide +kernel)) ggX3_clear_X2_forgetCounts
theorem dX3_clear_0 : decode cX3_clear 0 = .ok (.aload_n 0, 1) := by decide +kernel
theorem dX3_clear_1 : decode cX3_clear 1 = .ok (.getfield 10, 3) := by decide +kernel
theorem dX3_clear_4 : decode cX3_clear 4 = .ok (.invokevirtual 80, 3) := by decide +kernel
theorem dX3_clear_7 : decode cX3_clear 7 = .ok (.istore_n 1, 1) := by decide +kernel
theorem dX3_clear_8 : decode cX3_clear 8 = .ok (.aload_n 0, 1) := by decide +kernel
theorem dX3_clear_9 : decode cX3_clear 9 = .ok (.getfield 10, 3) := by decide +kernel
theorem dX3_clear_12 : decode cX3_clear 12 = .ok (.invokevirtual 83, 3) := by decide +kernel
theorem dX3_clear_15 : decode cX3_clear 15 = .ok (.aload_n 0, 1) := by decide +kernel
theorem dX3_clear_16 : decode cX3_clear 16 = .ok (.getfield 19, 3) := by decide +kernel
theorem dX3_clear_19 : decode cX3_clear 19 = .ok (.invokevirtual 86, 3) := by decide +kernel
theorem dX3_clear_22 : decode cX3_clear 22 = .ok (.aload_n 0, 1) := by decide +kernel
theorem dX3_clear_23 : decode cX3_clear 23 = .ok (.getfield 28, 3) := by decide +kernel
theorem dX3_clear_26 : decode cX3_clear 26 = .ok (.invokevirtual 89, 3) := by decide +kernel
theorem dX3_clear_29 : decode cX3_clear 29 = .ok (.aload_n 0, 1) := by decide +kernel
theorem dX3_clear_30 : decode cX3_clear 30 = .ok (.iconst 0, 1) := by decide +kernel
theorem dX3_clear_31 : decode cX3_clear 31 = .ok (.putfield 38, 3) := by decide +kernel
theorem dX3_clear_34 : decode cX3_clear 34 = .ok (.iload_n 1, 1) := by decide +kernel
theorem dX3_clear_35 : decode cX3_clear 35 = .ok (.ireturn, 1) := by decide +kernel
set_option maxRecDepth 20000 in
theorem ggX3_vertices_X0_size : GoodIn wsX3_vertices wsX0_size := goodIn_r _ [6, 7, 14, 15, 16] (by decide +kernel) (by decide +kernel)
set_option maxRecDepth 20000 in
theorem gX3_vertices_X0_size : GoodIn wsX3_vertices (wsV RX3 57 RX0 yX0_size wsX0_size) := goodIn_app (goodIn_of _ (by decide +kernel)) ggX3_vertices_X0_size
theorem dX3_vertices_0 : decode cX3_vertices 0 = .ok (.aload_n 0, 1) := by decide +kernel
theorem dX3_vertices_1 : decode cX3_vertices 1 = .ok (.getfield 10, 3) := by decide +kernel
theorem dX3_vertices_4 : decode cX3_vertices 4 = .ok (.invokevirtual 57, 3) := by decide +kernel
theorem dX3_vertices_7 : decode cX3_vertices 7 = .ok (.ireturn, 1) := by decide +kernel
set_option maxRecDepth 20000 in
theorem ggX3_edges_X0_countOfEdges : GoodIn wsX3_edges wsX0_countOfEdges := goodIn_r _ [6, 7, 14, 15, 16] (by decide +kernel) (by decide +kernel)
set_option maxRecDepth 20000 in
theorem gX3_edges_X0_countOfEdges : GoodIn wsX3_edges (wsV RX3 80 RX0 yX0_countOfEdges wsX0_countOfEdges) := goodIn_app (goodIn_of _ (by decide +kernel)) ggX3_edges_X0_countOfEdges
theorem dX3_edges_0 : decode cX3_edges 0 = .ok (.aload_n 0, 1) := by decide +kernel
theorem dX3_edges_1 : decode cX3_edges 1 = .ok (.getfield 10, 3) := by decide +kernel
theorem dX3_edges_4 : decode cX3_edges 4 = .ok (.invokevirtual 80, 3) := by decide +kernel
theorem dX3_edges_7 : decode cX3_edges 7 = .ok (.ireturn, 1) := by decide +kernel
set_option maxRecDepth 20000 in
theorem ggX3_neighbours_X3_requireVertex : GoodIn wsX3_neighbours wsX3_requireVertex := goodIn_ca (goodIn_r _ [6, 7, 8, 1, 9, 10, 11, 12, 13, 14, 22, 23, 24, 25, 26, 27, 28, 29, 30] (by decide +kernel) (by decide +kernel)) (goodIn_sub (fun _ h => List.mem_cons_of_mem _ (List.mem_append_right _ h)) (by decide +kernel))
set_option maxRecDepth 20000 in
theorem gX3_neighbours_X3_requireVertex : GoodIn wsX3_neighbours (wsV RX3 60 RX3 yX3_requireVertex wsX3_requireVertex) := goodIn_app (goodIn_of _ (by decide +kernel)) ggX3_neighbours_X3_requireVertex
set_option maxRecDepth 20000 in
theorem ggX3_neighbours_X0_adjacent : GoodIn wsX3_neighbours wsX0_adjacent := goodIn_r _ [18, 19, 20, 5, 21, 28, 29, 30] (by decide +kernel) (by decide +kernel)
set_option maxRecDepth 20000 in
theorem gX3_neighbours_X0_adjacent : GoodIn wsX3_neighbours (wsV RX3 92 RX0 yX0_adjacent wsX0_adjacent) := goodIn_app (goodIn_of _ (by decide +kernel)) ggX3_neighbours_X0_adjacent
theorem dX3_neighbours_0 : decode cX3_neighbours 0 = .ok (.aload_n 0, 1) := by decide +kernel
theorem dX3_neighbours_1 : decode cX3_neighbours 1 = .ok (.iload_n 1, 1) := by decide +kernel
theorem dX3_neighbours_2 : decode cX3_neighbours 2 = .ok (.invokevirtual 60, 3) := by decide +kernel
theorem dX3_neighbours_5 : decode cX3_neighbours 5 = .ok (.aload_n 0, 1) := by decide +kernel
theorem dX3_neighbours_6 : decode cX3_neighbours 6 = .ok (.getfield 10, 3) := by decide +kernel
theorem dX3_neighbours_9 : decode cX3_neighbours 9 = .ok (.iload_n 1, 1) := by decide +kernel
theorem dX3_neighbours_10 : decode cX3_neighbours 10 = .ok (.invokevirtual 92, 3) := by decide +kernel
theorem dX3_neighbours_13 : decode cX3_neighbours 13 = .ok (.lreturn, 1) := by decide +kernel
set_option maxRecDepth 20000 in
theorem ggX3_build_X2_labelAll : GoodIn wsX3_build wsX2_labelAll := goodIn_r _ [7, 8, 9, 10, 11, 12, 13, 6, 14, 15, 16, 17, 18, 19, 20, 21, 22, 23, 24, 25, 26, 27, 28, 29, 30, 31, 32, 33, 34, 35, 36, 37, 38, 39, 40, 41, 42, 43, 44, 45, 46, 47, 48, 49, 50, 51, 52, 53, 54, 55, 56, 57, 58, 59, 60, 61, 62, 63, 64, 65, 66, 67, 68, 69, 70, 71, 72, 73, 74, 75, 76, 77, 78, 79, 80, 81, 82, 83, 84, 85, 86, 87, 88, 89, 90, 91, 92, 93, 94, 95, 96, 97, 98, 99, 100, 101, 102, 103, 110, 111, 112, 113, 114, 115, 116, 117, 118, 119, 120, 121, 122, 123, 124, 125, 126, 127, 128] (by decide +kernel) (by decide +kernel)
set_option maxRecDepth 20000 in
theorem gX3_build_X2_labelAll : GoodIn wsX3_build (wsV RX3 96 RX2 yX2_labelAll wsX2_labelAll) := goodIn_app (goodIn_of _ (by decide +kernel)) ggX3_build_X2_labelAll
theorem dX3_build_0 : decode cX3_build 0 = .ok (.aload_n 0, 1) := by decide +kernel
theorem dX3_build_1 : decode cX3_build 1 = .ok (.iconst 1, 1) := by decide +kernel
theorem dX3_build_2 : decode cX3_build 2 = .ok (.putfield 38, 3) := by decide +kernel
theorem dX3_build_5 : decode cX3_build 5 = .ok (.aload_n 0, 1) := by decide +kernel
theorem dX3_build_6 : decode cX3_build 6 = .ok (.getfield 28, 3) := by decide +kernel
theorem dX3_build_9 : decode cX3_build 9 = .ok (.invokevirtual 96, 3) := by decide +kernel
theorem dX3_build_12 : decode cX3_build 12 = .ok (.ireturn, 1) := by decide +kernel
theorem dX3_isBuilt_0 : decode cX3_isBuilt 0 = .ok (.aload_n 0, 1) := by decide +kernel
theorem dX3_isBuilt_1 : decode cX3_isBuilt 1 = .ok (.getfield 38, 3) := by decide +kernel
theorem dX3_isBuilt_4 : decode cX3_isBuilt 4 = .ok (.ireturn, 1) := by decide +kernel
set_option maxRecDepth 20000 in
theorem ggX3_rank_X3_requireLabelOf : GoodIn wsX3_rank wsX3_requireLabelOf := goodIn_ca (goodIn_ca (goodIn_r _ [6, 7, 8, 9, 5, 10, 11, 12, 13, 14, 15, 16, 17, 18, 19, 20, 21, 22, 23, 24, 25, 26, 35, 36, 37, 38, 39, 40, 41, 42, 43] (by decide +kernel) (by decide +kernel)) (goodIn_sub (fun _ h => List.mem_cons_of_mem _ (List.mem_append_left _ (List.mem_append_right _ h))) (by decide +kernel))) (goodIn_sub (fun _ h => List.mem_cons_of_mem _ (List.mem_append_right _ h)) (by decide +kernel))
set_option maxRecDepth 20000 in
theorem gX3_rank_X3_requireLabelOf : GoodIn wsX3_rank (wsV RX3 99 RX3 yX3_requireLabelOf wsX3_requireLabelOf) := goodIn_app (goodIn_of _ (by decide +kernel)) ggX3_rank_X3_requireLabelOf
set_option maxRecDepth 20000 in
theorem ggX3_rank_X1_rankOf : GoodIn wsX3_rank wsX1_rankOf := goodIn_r _ [31, 32, 33, 5, 34, 44, 45, 46, 47, 48, 49] (by decide +kernel) (by decide +kernel)
set_option maxRecDepth 20000 in
theorem gX3_rank_X1_rankOf : GoodIn wsX3_rank (wsV RX3 102 RX1 yX1_rankOf wsX1_rankOf) := goodIn_app (goodIn_of _ (by decide +kernel)) ggX3_rank_X1_rankOf
theorem dX3_rank_0 : decode cX3_rank 0 = .ok (.aload_n 0, 1) := by decide +kernel
theorem dX3_rank_1 : decode cX3_rank 1 = .ok (.iload_n 1, 1) := by decide +kernel
theorem dX3_rank_2 : decode cX3_rank 2 = .ok (.invokevirtual 99, 3) := by decide +kernel
theorem dX3_rank_5 : decode cX3_rank 5 = .ok (.aload_n 0, 1) := by decide +kernel
theorem dX3_rank_6 : decode cX3_rank 6 = .ok (.getfield 19, 3) := by decide +kernel
theorem dX3_rank_9 : decode cX3_rank 9 = .ok (.iload_n 1, 1) := by decide +kernel
theorem dX3_rank_10 : decode cX3_rank 10 = .ok (.invokevirtual 102, 3) := by decide +kernel
theorem dX3_rank_13 : decode cX3_rank 13 = .ok (.ireturn, 1) := by decide +kernel
set_option maxRecDepth 20000 in
theorem ggX3_entries_X1_countAll : GoodIn wsX3_entries wsX1_countAll := goodIn_r _ [7, 8, 9, 10, 6, 11, 12, 13, 14, 15, 16, 17, 18, 19, 20, 21, 22, 29, 30, 31, 32, 33, 34] (by decide +kernel) (by decide +kernel)
set_option maxRecDepth 20000 in
theorem gX3_entries_X1_countAll : GoodIn wsX3_entries (wsV RX3 106 RX1 yX1_countAll wsX1_countAll) := goodIn_app (goodIn_of _ (by decide +kernel)) ggX3_entries_X1_countAll
theorem dX3_entries_0 : decode cX3_entries 0 = .ok (.aload_n 0, 1) := by decide +kernel
theorem dX3_entries_1 : decode cX3_entries 1 = .ok (.getfield 38, 3) := by decide +kernel
theorem dX3_entries_4 : decode cX3_entries 4 = .ok (.ifCond .eq 13, 3) := by decide +kernel
theorem dX3_entries_7 : decode cX3_entries 7 = .ok (.aload_n 0, 1) := by decide +kernel
theorem dX3_entries_8 : decode cX3_entries 8 = .ok (.getfield 19, 3) := by decide +kernel
theorem dX3_entries_11 : decode cX3_entries 11 = .ok (.invokevirtual 106, 3) := by decide +kernel
theorem dX3_entries_14 : decode cX3_entries 14 = .ok (.goto 4, 3) := by decide +kernel
theorem dX3_entries_17 : decode cX3_entries 17 = .ok (.iconst 0, 1) := by decide +kernel
theorem dX3_entries_18 : decode cX3_entries 18 = .ok (.ireturn, 1) := by decide +kernel
set_option maxRecDepth 20000 in
theorem ggX3_entriesIfBuilt_X2_labelAll : GoodIn wsX3_entriesIfBuilt wsX2_labelAll := goodIn_r _ [7, 8, 9, 10, 11, 12, 13, 6, 14, 15, 16, 17, 18, 19, 20, 21, 22, 23, 24, 25, 26, 27, 28, 29, 30, 31, 32, 33, 34, 35, 36, 37, 38, 39, 40, 41, 42, 43, 44, 45, 46, 47, 48, 49, 50, 51, 52, 53, 54, 55, 56, 57, 58, 59, 60, 61, 62, 63, 64, 65, 66, 67, 68, 69, 70, 71, 72, 73, 74, 75, 76, 77, 78, 79, 80, 81, 82, 83, 84, 85, 86, 87, 88, 89, 90, 91, 92, 93, 94, 95, 96, 97, 98, 99, 100, 101, 102, 103, 119, 120, 121, 122, 123, 124, 125, 126, 127, 128, 129, 130, 131, 132, 133, 134, 135, 136, 137] (by decide +kernel) (by decide +kernel)
set_option maxRecDepth 20000 in
theorem gX3_entriesIfBuilt_X2_labelAll : GoodIn wsX3_entriesIfBuilt (wsV RX3 96 RX2 yX2_labelAll wsX2_labelAll) := goodIn_app (goodIn_of _ (by decide +kernel)) ggX3_entriesIfBuilt_X2_labelAll
set_option maxRecDepth 20000 in
theorem ggX3_entriesIfBuilt_X1_countAll : GoodIn wsX3_entriesIfBuilt wsX1_countAll := goodIn_r _ [107, 108, 109, 110, 20, 111, 23, 43, 44, 45, 112, 47, 48, 49, 50, 51, 52, 129, 130, 131, 132, 133, 134] (by decide +kernel) (by decide +kernel)
set_option maxRecDepth 20000 in
theorem gX3_entriesIfBuilt_X1_countAll : GoodIn wsX3_entriesIfBuilt (wsV RX3 106 RX1 yX1_countAll wsX1_countAll) := goodIn_app (goodIn_of _ (by decide +kernel)) ggX3_entriesIfBuilt_X1_countAll
theorem dX3_entriesIfBuilt_0 : decode cX3_entriesIfBuilt 0 = .ok (.aload_n 0, 1) := by decide +kernel
theorem dX3_entriesIfBuilt_1 : decode cX3_entriesIfBuilt 1 = .ok (.getfield 35, 3) := by decide +kernel
theorem dX3_entriesIfBuilt_4 : decode cX3_entriesIfBuilt 4 = .ok (.invokevirtual 96, 3) := by decide +kernel
theorem dX3_entriesIfBuilt_7 : decode cX3_entriesIfBuilt 7 = .ok (.pop, 1) := by decide +kernel
theorem dX3_entriesIfBuilt_8 : decode cX3_entriesIfBuilt 8 = .ok (.aload_n 0, 1) := by decide +kernel
theorem dX3_entriesIfBuilt_9 : decode cX3_entriesIfBuilt 9 = .ok (.getfield 32, 3) := by decide +kernel
theorem dX3_entriesIfBuilt_12 : decode cX3_entriesIfBuilt 12 = .ok (.invokevirtual 106, 3) := by decide +kernel
theorem dX3_entriesIfBuilt_15 : decode cX3_entriesIfBuilt 15 = .ok (.ireturn, 1) := by decide +kernel
set_option maxRecDepth 20000 in
theorem ggX3_labelSize_X3_requireLabelOf : GoodIn wsX3_labelSize wsX3_requireLabelOf := goodIn_ca (goodIn_ca (goodIn_r _ [6, 7, 8, 9, 5, 10, 11, 12, 13, 14, 15, 16, 17, 18, 19, 20, 21, 22, 23, 24, 25, 26, 42, 43, 44, 45, 46, 47, 48, 49, 50] (by decide +kernel) (by decide +kernel)) (goodIn_sub (fun _ h => List.mem_cons_of_mem _ (List.mem_append_left _ (List.mem_append_right _ h))) (by decide +kernel))) (goodIn_sub (fun _ h => List.mem_cons_of_mem _ (List.mem_append_right _ h)) (by decide +kernel))
set_option maxRecDepth 20000 in
theorem gX3_labelSize_X3_requireLabelOf : GoodIn wsX3_labelSize (wsV RX3 99 RX3 yX3_requireLabelOf wsX3_requireLabelOf) := goodIn_app (goodIn_of _ (by decide +kernel)) ggX3_labelSize_X3_requireLabelOf
set_option maxRecDepth 20000 in
theorem ggX3_labelSize_X1_countOf : GoodIn wsX3_labelSize wsX1_countOf := goodIn_r _ [31, 32, 33, 5, 34, 35, 36, 37, 38, 39, 40, 41, 51, 52, 53, 54, 55, 56] (by decide +kernel) (by decide +kernel)
set_option maxRecDepth 20000 in
theorem gX3_labelSize_X1_countOf : GoodIn wsX3_labelSize (wsV RX3 109 RX1 yX1_countOf wsX1_countOf) := goodIn_app (goodIn_of _ (by decide +kernel)) ggX3_labelSize_X1_countOf
theorem dX3_labelSize_0 : decode cX3_labelSize 0 = .ok (.aload_n 0, 1) := by decide +kernel
theorem dX3_labelSize_1 : decode cX3_labelSize 1 = .ok (.iload_n 1, 1) := by decide +kernel
theorem dX3_labelSize_2 : decode cX3_labelSize 2 = .ok (.invokevirtual 99, 3) := by decide +kernel
theorem dX3_labelSize_5 : decode cX3_labelSize 5 = .ok (.aload_n 0, 1) := by decide +kernel
theorem dX3_labelSize_6 : decode cX3_labelSize 6 = .ok (.getfield 19, 3) := by decide +kernel
theorem dX3_labelSize_9 : decode cX3_labelSize 9 = .ok (.iload_n 1, 1) := by decide +kernel
theorem dX3_labelSize_10 : decode cX3_labelSize 10 = .ok (.invokevirtual 109, 3) := by decide +kernel
theorem dX3_labelSize_13 : decode cX3_labelSize 13 = .ok (.ireturn, 1) := by decide +kernel
set_option maxRecDepth 20000 in
theorem ggX3_entryHub_X3_requireLabelOf : GoodIn wsX3_entryHub wsX3_requireLabelOf := goodIn_ca (goodIn_ca (goodIn_r _ [6, 7, 8, 9, 5, 10, 11, 12, 13, 14, 15, 16, 17, 18, 19, 20, 21, 22, 23, 24, 25, 26, 59, 60, 61, 62, 63, 64, 65, 66, 67] (by decide +kernel) (by decide +kernel)) (goodIn_sub (fun _ h => List.mem_cons_of_mem _ (List.mem_append_left _ (List.mem_append_left _ (List.mem_append_right _ h)))) (by decide +kernel))) (goodIn_sub (fun _ h => List.mem_cons_of_mem _ (List.mem_append_left _ (List.mem_append_right _ h))) (by decide +kernel))
set_option maxRecDepth 20000 in
theorem gX3_entryHub_X3_requireLabelOf : GoodIn wsX3_entryHub (wsV RX3 99 RX3 yX3_requireLabelOf wsX3_requireLabelOf) := goodIn_app (goodIn_of _ (by decide +kernel)) ggX3_entryHub_X3_requireLabelOf
set_option maxRecDepth 20000 in
theorem ggX3_entryHub_X3_requireEntry : GoodIn wsX3_entryHub wsX3_requireEntry := goodIn_ca (goodIn_r _ [30, 31, 32, 1, 33, 34, 35, 36, 37, 38, 39, 5, 40, 41, 42, 43, 44, 45, 46, 47, 59, 60, 61, 62, 63, 64, 68, 69, 70, 71, 72, 73] (by decide +kernel) (by decide +kernel)) (goodIn_sub (fun _ h => List.mem_cons_of_mem _ (List.mem_append_right _ h)) (by decide +kernel))
set_option maxRecDepth 20000 in
theorem gX3_entryHub_X3_requireEntry : GoodIn wsX3_entryHub (wsV RX3 112 RX3 yX3_requireEntry wsX3_requireEntry) := goodIn_app (goodIn_of _ (by decide +kernel)) ggX3_entryHub_X3_requireEntry
set_option maxRecDepth 20000 in
theorem ggX3_entryHub_X1_hubRankOfEntry : GoodIn wsX3_entryHub wsX1_hubRankOfEntry := goodIn_r _ [51, 38, 39, 5, 40, 52, 53, 68, 69, 70, 71, 72, 73] (by decide +kernel) (by decide +kernel)
set_option maxRecDepth 20000 in
theorem gX3_entryHub_X1_hubRankOfEntry : GoodIn wsX3_entryHub (wsV RX3 115 RX1 yX1_hubRankOfEntry wsX1_hubRankOfEntry) := goodIn_app (goodIn_of _ (by decide +kernel)) ggX3_entryHub_X1_hubRankOfEntry
set_option maxRecDepth 20000 in
theorem ggX3_entryHub_X1_vertexOf : GoodIn wsX3_entryHub wsX1_vertexOf := goodIn_r _ [57, 58, 39, 5, 40, 68, 69, 70, 71, 72, 73] (by decide +kernel) (by decide +kernel)
set_option maxRecDepth 20000 in
theorem gX3_entryHub_X1_vertexOf : GoodIn wsX3_entryHub (wsV RX3 118 RX1 yX1_vertexOf wsX1_vertexOf) := goodIn_app (goodIn_of _ (by decide +kernel)) ggX3_entryHub_X1_vertexOf
theorem dX3_entryHub_0 : decode cX3_entryHub 0 = .ok (.aload_n 0, 1) := by decide +kernel
theorem dX3_entryHub_1 : decode cX3_entryHub 1 = .ok (.iload_n 1, 1) := by decide +kernel
theorem dX3_entryHub_2 : decode cX3_entryHub 2 = .ok (.invokevirtual 99, 3) := by decide +kernel
theorem dX3_entryHub_5 : decode cX3_entryHub 5 = .ok (.aload_n 0, 1) := by decide +kernel
theorem dX3_entryHub_6 : decode cX3_entryHub 6 = .ok (.iload_n 1, 1) := by decide +kernel
theorem dX3_entryHub_7 : decode cX3_entryHub 7 = .ok (.iload_n 2, 1) := by decide +kernel
theorem dX3_entryHub_8 : decode cX3_entryHub 8 = .ok (.invokevirtual 112, 3) := by decide +kernel
theorem dX3_entryHub_11 : decode cX3_entryHub 11 = .ok (.aload_n 0, 1) := by decide +kernel
theorem dX3_entryHub_12 : decode cX3_entryHub 12 = .ok (.getfield 19, 3) := by decide +kernel
theorem dX3_entryHub_15 : decode cX3_entryHub 15 = .ok (.aload_n 0, 1) := by decide +kernel
theorem dX3_entryHub_16 : decode cX3_entryHub 16 = .ok (.getfield 19, 3) := by decide +kernel
theorem dX3_entryHub_19 : decode cX3_entryHub 19 = .ok (.iload_n 1, 1) := by decide +kernel
theorem dX3_entryHub_20 : decode cX3_entryHub 20 = .ok (.iload_n 2, 1) := by decide +kernel
theorem dX3_entryHub_21 : decode cX3_entryHub 21 = .ok (.invokevirtual 115, 3) := by decide +kernel
theorem dX3_entryHub_24 : decode cX3_entryHub 24 = .ok (.invokevirtual 118, 3) := by decide +kernel
theorem dX3_entryHub_27 : decode cX3_entryHub 27 = .ok (.ireturn, 1) := by decide +kernel
set_option maxRecDepth 20000 in
theorem ggX3_entryDistance_X3_requireLabelOf : GoodIn wsX3_entryDistance wsX3_requireLabelOf := goodIn_ca (goodIn_ca (goodIn_r _ [6, 7, 8, 9, 5, 10, 11, 12, 13, 14, 15, 16, 17, 18, 19, 20, 21, 22, 23, 24, 25, 26, 63, 64, 65, 66, 67, 68, 69, 70, 71] (by decide +kernel) (by decide +kernel)) (goodIn_sub (fun _ h => List.mem_cons_of_mem _ (List.mem_append_left _ (List.mem_append_left _ (List.mem_append_right _ h)))) (by decide +kernel))) (goodIn_sub (fun _ h => List.mem_cons_of_mem _ (List.mem_append_left _ (List.mem_append_right _ h))) (by decide +kernel))
set_option maxRecDepth 20000 in
theorem gX3_entryDistance_X3_requireLabelOf : GoodIn wsX3_entryDistance (wsV RX3 99 RX3 yX3_requireLabelOf wsX3_requireLabelOf) := goodIn_app (goodIn_of _ (by decide +kernel)) ggX3_entryDistance_X3_requireLabelOf
set_option maxRecDepth 20000 in
theorem ggX3_entryDistance_X3_requireEntry : GoodIn wsX3_entryDistance wsX3_requireEntry := goodIn_ca (goodIn_r _ [30, 31, 32, 1, 33, 34, 35, 36, 37, 38, 39, 5, 40, 41, 42, 43, 44, 45, 46, 47, 63, 64, 65, 66, 67, 68, 72, 73, 74, 75, 76, 77] (by decide +kernel) (by decide +kernel)) (goodIn_sub (fun _ h => List.mem_cons_of_mem _ (List.mem_append_right _ h)) (by decide +kernel))
set_option maxRecDepth 20000 in
theorem gX3_entryDistance_X3_requireEntry : GoodIn wsX3_entryDistance (wsV RX3 112 RX3 yX3_requireEntry wsX3_requireEntry) := goodIn_app (goodIn_of _ (by decide +kernel)) ggX3_entryDistance_X3_requireEntry
set_option maxRecDepth 20000 in
theorem ggX3_entryDistance_X1_hubRankOfEntry : GoodIn wsX3_entryDistance wsX1_hubRankOfEntry := goodIn_r _ [51, 38, 39, 5, 40, 52, 53, 72, 73, 74, 75, 76, 77] (by decide +kernel) (by decide +kernel)
set_option maxRecDepth 20000 in
theorem gX3_entryDistance_X1_hubRankOfEntry : GoodIn wsX3_entryDistance (wsV RX3 115 RX1 yX1_hubRankOfEntry wsX1_hubRankOfEntry) := goodIn_app (goodIn_of _ (by decide +kernel)) ggX3_entryDistance_X1_hubRankOfEntry
set_option maxRecDepth 20000 in
theorem ggX3_entryDistance_X1_distanceTo : GoodIn wsX3_entryDistance wsX1_distanceTo := goodIn_r _ [57, 58, 59, 60, 61, 36, 62, 38, 39, 5, 40, 52, 53, 72, 73, 74, 75, 76, 77] (by decide +kernel) (by decide +kernel)
set_option maxRecDepth 20000 in
theorem gX3_entryDistance_X1_distanceTo : GoodIn wsX3_entryDistance (wsV RX3 121 RX1 yX1_distanceTo wsX1_distanceTo) := goodIn_app (goodIn_of _ (by decide +kernel)) ggX3_entryDistance_X1_distanceTo
theorem dX3_entryDistance_0 : decode cX3_entryDistance 0 = .ok (.aload_n 0, 1) := by decide +kernel
theorem dX3_entryDistance_1 : decode cX3_entryDistance 1 = .ok (.iload_n 1, 1) := by decide +kernel
theorem dX3_entryDistance_2 : decode cX3_entryDistance 2 = .ok (.invokevirtual 99, 3) := by decide +kernel
theorem dX3_entryDistance_5 : decode cX3_entryDistance 5 = .ok (.aload_n 0, 1) := by decide +kernel
theorem dX3_entryDistance_6 : decode cX3_entryDistance 6 = .ok (.iload_n 1, 1) := by decide +kernel
theorem dX3_entryDistance_7 : decode cX3_entryDistance 7 = .ok (.iload_n 2, 1) := by decide +kernel
theorem dX3_entryDistance_8 : decode cX3_entryDistance 8 = .ok (.invokevirtual 112, 3) := by decide +kernel
theorem dX3_entryDistance_11 : decode cX3_entryDistance 11 = .ok (.aload_n 0, 1) := by decide +kernel
theorem dX3_entryDistance_12 : decode cX3_entryDistance 12 = .ok (.getfield 19, 3) := by decide +kernel
theorem dX3_entryDistance_15 : decode cX3_entryDistance 15 = .ok (.aload_n 0, 1) := by decide +kernel
theorem dX3_entryDistance_16 : decode cX3_entryDistance 16 = .ok (.getfield 19, 3) := by decide +kernel
theorem dX3_entryDistance_19 : decode cX3_entryDistance 19 = .ok (.iload_n 1, 1) := by decide +kernel
theorem dX3_entryDistance_20 : decode cX3_entryDistance 20 = .ok (.iload_n 2, 1) := by decide +kernel
theorem dX3_entryDistance_21 : decode cX3_entryDistance 21 = .ok (.invokevirtual 115, 3) := by decide +kernel
theorem dX3_entryDistance_24 : decode cX3_entryDistance 24 = .ok (.iload_n 1, 1) := by decide +kernel
theorem dX3_entryDistance_25 : decode cX3_entryDistance 25 = .ok (.invokevirtual 121, 3) := by decide +kernel
theorem dX3_entryDistance_28 : decode cX3_entryDistance 28 = .ok (.ireturn, 1) := by decide +kernel
set_option maxRecDepth 20000 in
theorem ggX3_entryParent_X3_requireLabelOf : GoodIn wsX3_entryParent wsX3_requireLabelOf := goodIn_ca (goodIn_ca (goodIn_r _ [6, 7, 8, 9, 5, 10, 11, 12, 13, 14, 15, 16, 17, 18, 19, 20, 21, 22, 23, 24, 25, 26, 63, 64, 65, 66, 67, 68, 69, 70, 71] (by decide +kernel) (by decide +kernel)) (goodIn_sub (fun _ h => List.mem_cons_of_mem _ (List.mem_append_left _ (List.mem_append_left _ (List.mem_append_right _ h)))) (by decide +kernel))) (goodIn_sub (fun _ h => List.mem_cons_of_mem _ (List.mem_append_left _ (List.mem_append_right _ h))) (by decide +kernel))
set_option maxRecDepth 20000 in
theorem gX3_entryParent_X3_requireLabelOf : GoodIn wsX3_entryParent (wsV RX3 99 RX3 yX3_requireLabelOf wsX3_requireLabelOf) := goodIn_app (goodIn_of _ (by decide +kernel)) ggX3_entryParent_X3_requireLabelOf
set_option maxRecDepth 20000 in
theorem ggX3_entryParent_X3_requireEntry : GoodIn wsX3_entryParent wsX3_requireEntry := goodIn_ca (goodIn_r _ [30, 31, 32, 1, 33, 34, 35, 36, 37, 38, 39, 5, 40, 41, 42, 43, 44, 45, 46, 47, 63, 64, 65, 66, 67, 68, 72, 73, 74, 75, 76, 77] (by decide +kernel) (by decide +kernel)) (goodIn_sub (fun _ h => List.mem_cons_of_mem _ (List.mem_append_right _ h)) (by decide +kernel))
set_option maxRecDepth 20000 in
theorem gX3_entryParent_X3_requireEntry : GoodIn wsX3_entryParent (wsV RX3 112 RX3 yX3_requireEntry wsX3_requireEntry) := goodIn_app (goodIn_of _ (by decide +kernel)) ggX3_entryParent_X3_requireEntry
set_option maxRecDepth 20000 in
theorem ggX3_entryParent_X1_hubRankOfEntry : GoodIn wsX3_entryParent wsX1_hubRankOfEntry := goodIn_r _ [51, 38, 39, 5, 40, 52, 53, 72, 73, 74, 75, 76, 77] (by decide +kernel) (by decide +kernel)
set_option maxRecDepth 20000 in
theorem gX3_entryParent_X1_hubRankOfEntry : GoodIn wsX3_entryParent (wsV RX3 115 RX1 yX1_hubRankOfEntry wsX1_hubRankOfEntry) := goodIn_app (goodIn_of _ (by decide +kernel)) ggX3_entryParent_X1_hubRankOfEntry
set_option maxRecDepth 20000 in
theorem ggX3_entryParent_X1_parentTowards : GoodIn wsX3_entryParent wsX1_parentTowards := goodIn_r _ [57, 58, 59, 60, 61, 36, 62, 38, 39, 5, 40, 52, 53, 72, 73, 74, 75, 76, 77] (by decide +kernel) (by decide +kernel)
set_option maxRecDepth 20000 in
theorem gX3_entryParent_X1_parentTowards : GoodIn wsX3_entryParent (wsV RX3 124 RX1 yX1_parentTowards wsX1_parentTowards) := goodIn_app (goodIn_of _ (by decide +kernel)) ggX3_entryParent_X1_parentTowards
theorem dX3_entryParent_0 : decode cX3_entryParent 0 = .ok (.aload_n 0, 1) := by decide +kernel
theorem dX3_entryParent_1 : decode cX3_entryParent 1 = .ok (.iload_n 1, 1) := by decide +kernel
theorem dX3_entryParent_2 : decode cX3_entryParent 2 = .ok (.invokevirtual 99, 3) := by decide +kernel
theorem dX3_entryParent_5 : decode cX3_entryParent 5 = .ok (.aload_n 0, 1) := by decide +kernel
theorem dX3_entryParent_6 : decode cX3_entryParent 6 = .ok (.iload_n 1, 1) := by decide +kernel
theorem dX3_entryParent_7 : decode cX3_entryParent 7 = .ok (.iload_n 2, 1) := by decide +kernel
theorem dX3_entryParent_8 : decode cX3_entryParent 8 = .ok (.invokevirtual 112, 3) := by decide +kernel
theorem dX3_entryParent_11 : decode cX3_entryParent 11 = .ok (.aload_n 0, 1) := by decide +kernel
theorem dX3_entryParent_12 : decode cX3_entryParent 12 = .ok (.getfield 19, 3) := by decide +kernel
theorem dX3_entryParent_15 : decode cX3_entryParent 15 = .ok (.aload_n 0, 1) := by decide +kernel
theorem dX3_entryParent_16 : decode cX3_entryParent 16 = .ok (.getfield 19, 3) := by decide +kernel
theorem dX3_entryParent_19 : decode cX3_entryParent 19 = .ok (.iload_n 1, 1) := by decide +kernel
theorem dX3_entryParent_20 : decode cX3_entryParent 20 = .ok (.iload_n 2, 1) := by decide +kernel
theorem dX3_entryParent_21 : decode cX3_entryParent 21 = .ok (.invokevirtual 115, 3) := by decide +kernel
theorem dX3_entryParent_24 : decode cX3_entryParent 24 = .ok (.iload_n 1, 1) := by decide +kernel
theorem dX3_entryParent_25 : decode cX3_entryParent 25 = .ok (.invokevirtual 124, 3) := by decide +kernel
theorem dX3_entryParent_28 : decode cX3_entryParent 28 = .ok (.ireturn, 1) := by decide +kernel
set_option maxRecDepth 20000 in
theorem ggX3_distance_X3_requireLabelsOf : GoodIn wsX3_distance wsX3_requireLabelsOf := goodIn_ca (goodIn_ca (goodIn_r _ [6, 7, 8, 9, 10, 11, 12, 5, 13, 14, 15, 16, 17, 18, 19, 20, 21, 22, 46, 47, 48, 49, 50, 51, 52, 53, 54] (by decide +kernel) (by decide +kernel)) (goodIn_sub (fun _ h => List.mem_cons_of_mem _ (List.mem_append_left _ (List.mem_append_right _ h))) (by decide +kernel))) (goodIn_sub (fun _ h => List.mem_cons_of_mem _ (List.mem_append_right _ h)) (by decide +kernel))
set_option maxRecDepth 20000 in
theorem gX3_distance_X3_requireLabelsOf : GoodIn wsX3_distance (wsV RX3 127 RX3 yX3_requireLabelsOf wsX3_requireLabelsOf) := goodIn_app (goodIn_of _ (by decide +kernel)) ggX3_distance_X3_requireLabelsOf
set_option maxRecDepth 20000 in
theorem ggX3_distance_X1_estimate : GoodIn wsX3_distance wsX1_estimate := goodIn_r _ [27, 28, 29, 30, 26, 31, 32, 33, 34, 35, 36, 37, 5, 38, 39, 40, 41, 42, 43, 44, 45, 55, 56, 57, 58, 59, 60] (by decide +kernel) (by decide +kernel)
set_option maxRecDepth 20000 in
theorem gX3_distance_X1_estimate : GoodIn wsX3_distance (wsV RX3 130 RX1 yX1_estimate wsX1_estimate) := goodIn_app (goodIn_of _ (by decide +kernel)) ggX3_distance_X1_estimate
theorem dX3_distance_0 : decode cX3_distance 0 = .ok (.aload_n 0, 1) := by decide +kernel
theorem dX3_distance_1 : decode cX3_distance 1 = .ok (.iload_n 1, 1) := by decide +kernel
theorem dX3_distance_2 : decode cX3_distance 2 = .ok (.iload_n 2, 1) := by decide +kernel
theorem dX3_distance_3 : decode cX3_distance 3 = .ok (.invokevirtual 127, 3) := by decide +kernel
theorem dX3_distance_6 : decode cX3_distance 6 = .ok (.aload_n 0, 1) := by decide +kernel
theorem dX3_distance_7 : decode cX3_distance 7 = .ok (.getfield 19, 3) := by decide +kernel
theorem dX3_distance_10 : decode cX3_distance 10 = .ok (.iload_n 1, 1) := by decide +kernel
theorem dX3_distance_11 : decode cX3_distance 11 = .ok (.iload_n 2, 1) := by decide +kernel
theorem dX3_distance_12 : decode cX3_distance 12 = .ok (.invokevirtual 130, 3) := by decide +kernel
theorem dX3_distance_15 : decode cX3_distance 15 = .ok (.ireturn, 1) := by decide +kernel
set_option maxRecDepth 20000 in
theorem ggX3_hub_X3_requireLabelsOf : GoodIn wsX3_hub wsX3_requireLabelsOf := goodIn_ca (goodIn_ca (goodIn_r _ [6, 7, 8, 9, 10, 11, 12, 5, 13, 14, 15, 16, 17, 18, 19, 20, 21, 22, 47, 48, 49, 50, 51, 52, 53, 54, 55] (by decide +kernel) (by decide +kernel)) (goodIn_sub (fun _ h => List.mem_cons_of_mem _ (List.mem_append_left _ (List.mem_append_right _ h))) (by decide +kernel))) (goodIn_sub (fun _ h => List.mem_cons_of_mem _ (List.mem_append_right _ h)) (by decide +kernel))
set_option maxRecDepth 20000 in
theorem gX3_hub_X3_requireLabelsOf : GoodIn wsX3_hub (wsV RX3 127 RX3 yX3_requireLabelsOf wsX3_requireLabelsOf) := goodIn_app (goodIn_of _ (by decide +kernel)) ggX3_hub_X3_requireLabelsOf
set_option maxRecDepth 20000 in
theorem ggX3_hub_X1_meetingRank : GoodIn wsX3_hub wsX1_meetingRank := goodIn_r _ [27, 28, 29, 30, 26, 31, 32, 33, 5, 34, 35, 36, 37, 38, 39, 40, 41, 56, 57, 58, 59, 60, 61] (by decide +kernel) (by decide +kernel)
set_option maxRecDepth 20000 in
theorem gX3_hub_X1_meetingRank : GoodIn wsX3_hub (wsV RX3 133 RX1 yX1_meetingRank wsX1_meetingRank) := goodIn_app (goodIn_of _ (by decide +kernel)) ggX3_hub_X1_meetingRank
set_option maxRecDepth 20000 in
theorem ggX3_hub_X1_vertexOf : GoodIn wsX3_hub wsX1_vertexOf := goodIn_r _ [45, 46, 33, 5, 34, 56, 57, 58, 59, 60, 61] (by decide +kernel) (by decide +kernel)
set_option maxRecDepth 20000 in
theorem gX3_hub_X1_vertexOf : GoodIn wsX3_hub (wsV RX3 118 RX1 yX1_vertexOf wsX1_vertexOf) := goodIn_app (goodIn_of _ (by decide +kernel)) ggX3_hub_X1_vertexOf
theorem dX3_hub_0 : decode cX3_hub 0 = .ok (.aload_n 0, 1) := by decide +kernel
theorem dX3_hub_1 : decode cX3_hub 1 = .ok (.iload_n 1, 1) := by decide +kernel
theorem dX3_hub_2 : decode cX3_hub 2 = .ok (.iload_n 2, 1) := by decide +kernel
theorem dX3_hub_3 : decode cX3_hub 3 = .ok (.invokevirtual 127, 3) := by decide +kernel
theorem dX3_hub_6 : decode cX3_hub 6 = .ok (.aload_n 0, 1) := by decide +kernel
theorem dX3_hub_7 : decode cX3_hub 7 = .ok (.getfield 19, 3) := by decide +kernel
theorem dX3_hub_10 : decode cX3_hub 10 = .ok (.aload_n 0, 1) := by decide +kernel
theorem dX3_hub_11 : decode cX3_hub 11 = .ok (.getfield 19, 3) := by decide +kernel
theorem dX3_hub_14 : decode cX3_hub 14 = .ok (.iload_n 1, 1) := by decide +kernel
theorem dX3_hub_15 : decode cX3_hub 15 = .ok (.iload_n 2, 1) := by decide +kernel
theorem dX3_hub_16 : decode cX3_hub 16 = .ok (.invokevirtual 133, 3) := by decide +kernel
theorem dX3_hub_19 : decode cX3_hub 19 = .ok (.invokevirtual 118, 3) := by decide +kernel
theorem dX3_hub_22 : decode cX3_hub 22 = .ok (.ireturn, 1) := by decide +kernel
set_option maxRecDepth 20000 in
theorem ggX3_pathVertex_X3_requireLabelsOf : GoodIn wsX3_pathVertex wsX3_requireLabelsOf := goodIn_ca (goodIn_ca (goodIn_r _ [8, 9, 10, 11, 12, 13, 14, 7, 15, 16, 17, 18, 19, 20, 21, 22, 23, 24, 70, 71, 72, 73, 74, 75, 76, 77, 78] (by decide +kernel) (by decide +kernel)) (goodIn_sub (fun _ h => List.mem_cons_of_mem _ (List.mem_append_left _ (List.mem_append_right _ h))) (by decide +kernel))) (goodIn_sub (fun _ h => List.mem_cons_of_mem _ (List.mem_append_right _ h)) (by decide +kernel))
set_option maxRecDepth 20000 in
theorem gX3_pathVertex_X3_requireLabelsOf : GoodIn wsX3_pathVertex (wsV RX3 127 RX3 yX3_requireLabelsOf wsX3_requireLabelsOf) := goodIn_app (goodIn_of _ (by decide +kernel)) ggX3_pathVertex_X3_requireLabelsOf
set_option maxRecDepth 20000 in
theorem ggX3_pathVertex_X1_vertexOnPath : GoodIn wsX3_pathVertex wsX1_vertexOnPath := goodIn_r _ [29, 30, 31, 32, 28, 33, 34, 35, 36, 37, 38, 39, 7, 40, 41, 42, 43, 44, 45, 46, 47, 48, 49, 50, 51, 52, 53, 54, 55, 56, 57, 58, 59, 60, 61, 62, 63, 64, 65, 66, 67, 68, 69, 79, 80, 81, 82, 83, 84] (by decide +kernel) (by decide +kernel)
set_option maxRecDepth 20000 in
theorem gX3_pathVertex_X1_vertexOnPath : GoodIn wsX3_pathVertex (wsV RX3 138 RX1 yX1_vertexOnPath wsX1_vertexOnPath) := goodIn_app (goodIn_of _ (by decide +kernel)) ggX3_pathVertex_X1_vertexOnPath
theorem dX3_pathVertex_0 : decode cX3_pathVertex 0 = .ok (.aload_n 0, 1) := by decide +kernel
theorem dX3_pathVertex_1 : decode cX3_pathVertex 1 = .ok (.iload_n 1, 1) := by decide +kernel
theorem dX3_pathVertex_2 : decode cX3_pathVertex 2 = .ok (.iload_n 2, 1) := by decide +kernel
theorem dX3_pathVertex_3 : decode cX3_pathVertex 3 = .ok (.invokevirtual 127, 3) := by decide +kernel
theorem dX3_pathVertex_6 : decode cX3_pathVertex 6 = .ok (.iload_n 3, 1) := by decide +kernel
theorem dX3_pathVertex_7 : decode cX3_pathVertex 7 = .ok (.ifCond .ge 13, 3) := by decide +kernel
theorem dX3_pathVertex_10 : decode cX3_pathVertex 10 = .ok (.new 50, 3) := by decide +kernel
theorem dX3_pathVertex_13 : decode cX3_pathVertex 13 = .ok (.dup, 1) := by decide +kernel
theorem dX3_pathVertex_14 : decode cX3_pathVertex 14 = .ok (.ldc 136, 2) := by decide +kernel
theorem dX3_pathVertex_16 : decode cX3_pathVertex 16 = .ok (.invokespecial 54, 3) := by decide +kernel
theorem dX3_pathVertex_19 : decode cX3_pathVertex 19 = .ok (.athrow, 1) := by decide +kernel
theorem dX3_pathVertex_20 : decode cX3_pathVertex 20 = .ok (.aload_n 0, 1) := by decide +kernel
theorem dX3_pathVertex_21 : decode cX3_pathVertex 21 = .ok (.getfield 19, 3) := by decide +kernel
theorem dX3_pathVertex_24 : decode cX3_pathVertex 24 = .ok (.iload_n 1, 1) := by decide +kernel
theorem dX3_pathVertex_25 : decode cX3_pathVertex 25 = .ok (.iload_n 2, 1) := by decide +kernel
theorem dX3_pathVertex_26 : decode cX3_pathVertex 26 = .ok (.iload_n 3, 1) := by decide +kernel
theorem dX3_pathVertex_27 : decode cX3_pathVertex 27 = .ok (.invokevirtual 138, 3) := by decide +kernel
theorem dX3_pathVertex_30 : decode cX3_pathVertex 30 = .ok (.ireturn, 1) := by decide +kernel
set_option maxRecDepth 20000 in
theorem ggX3_within_X3_requireLabelOf : GoodIn wsX3_within wsX3_requireLabelOf := goodIn_ca (goodIn_ca (goodIn_r _ [9, 10, 11, 12, 8, 13, 14, 15, 16, 17, 18, 19, 20, 21, 22, 3, 23, 24, 25, 26, 27, 28, 56, 57, 58, 59, 60, 61, 62, 63, 64] (by decide +kernel) (by decide +kernel)) (goodIn_sub (fun _ h => List.mem_cons_of_mem _ (List.mem_append_left _ (List.mem_append_right _ h))) (by decide +kernel))) (goodIn_sub (fun _ h => List.mem_cons_of_mem _ (List.mem_append_right _ h)) (by decide +kernel))
set_option maxRecDepth 20000 in
theorem gX3_within_X3_requireLabelOf : GoodIn wsX3_within (wsV RX3 99 RX3 yX3_requireLabelOf wsX3_requireLabelOf) := goodIn_app (goodIn_of _ (by decide +kernel)) ggX3_within_X3_requireLabelOf
set_option maxRecDepth 20000 in
theorem ggX3_within_X0_size : GoodIn wsX3_within wsX0_size := goodIn_r _ [32, 28, 62, 63, 64] (by decide +kernel) (by decide +kernel)
set_option maxRecDepth 20000 in
theorem gX3_within_X0_size : GoodIn wsX3_within (wsV RX3 57 RX0 yX0_size wsX0_size) := goodIn_app (goodIn_of _ (by decide +kernel)) ggX3_within_X0_size
set_option maxRecDepth 20000 in
theorem ggX3_within_X1_estimate : GoodIn wsX3_within wsX1_estimate := goodIn_r _ [37, 38, 39, 40, 36, 41, 42, 43, 44, 45, 46, 47, 8, 48, 49, 50, 51, 52, 53, 54, 55, 65, 66, 67, 68, 69, 70] (by decide +kernel) (by decide +kernel)
set_option maxRecDepth 20000 in
theorem gX3_within_X1_estimate : GoodIn wsX3_within (wsV RX3 130 RX1 yX1_estimate wsX1_estimate) := goodIn_app (goodIn_of _ (by decide +kernel)) ggX3_within_X1_estimate
theorem dX3_within_0 : decode cX3_within 0 = .ok (.aload_n 0, 1) := by decide +kernel
theorem dX3_within_1 : decode cX3_within 1 = .ok (.iload_n 1, 1) := by decide +kernel
theorem dX3_within_2 : decode cX3_within 2 = .ok (.invokevirtual 99, 3) := by decide +kernel
theorem dX3_within_5 : decode cX3_within 5 = .ok (.iload_n 2, 1) := by decide +kernel
theorem dX3_within_6 : decode cX3_within 6 = .ok (.ifCond .lt 9, 3) := by decide +kernel
theorem dX3_within_9 : decode cX3_within 9 = .ok (.iload_n 2, 1) := by decide +kernel
theorem dX3_within_10 : decode cX3_within 10 = .ok (.bipush 47, 2) := by decide +kernel
theorem dX3_within_12 : decode cX3_within 12 = .ok (.if_icmp .le 13, 3) := by decide +kernel
theorem dX3_within_15 : decode cX3_within 15 = .ok (.new 50, 3) := by decide +kernel
theorem dX3_within_18 : decode cX3_within 18 = .ok (.dup, 1) := by decide +kernel
theorem dX3_within_19 : decode cX3_within 19 = .ok (.ldc 142, 2) := by decide +kernel
theorem dX3_within_21 : decode cX3_within 21 = .ok (.invokespecial 54, 3) := by decide +kernel
theorem dX3_within_24 : decode cX3_within 24 = .ok (.athrow, 1) := by decide +kernel
theorem dX3_within_25 : decode cX3_within 25 = .ok (.lconst 0, 1) := by decide +kernel
theorem dX3_within_26 : decode cX3_within 26 = .ok (.lstore_n 3, 1) := by decide +kernel
theorem dX3_within_27 : decode cX3_within 27 = .ok (.iconst 0, 1) := by decide +kernel
theorem dX3_within_28 : decode cX3_within 28 = .ok (.istore 5, 2) := by decide +kernel
theorem dX3_within_30 : decode cX3_within 30 = .ok (.iload 5, 2) := by decide +kernel
theorem dX3_within_32 : decode cX3_within 32 = .ok (.aload_n 0, 1) := by decide +kernel
theorem dX3_within_33 : decode cX3_within 33 = .ok (.getfield 10, 3) := by decide +kernel
theorem dX3_within_36 : decode cX3_within 36 = .ok (.invokevirtual 57, 3) := by decide +kernel
theorem dX3_within_39 : decode cX3_within 39 = .ok (.if_icmp .ge 40, 3) := by decide +kernel
theorem dX3_within_42 : decode cX3_within 42 = .ok (.aload_n 0, 1) := by decide +kernel
theorem dX3_within_43 : decode cX3_within 43 = .ok (.getfield 19, 3) := by decide +kernel
theorem dX3_within_46 : decode cX3_within 46 = .ok (.iload_n 1, 1) := by decide +kernel
theorem dX3_within_47 : decode cX3_within 47 = .ok (.iload 5, 2) := by decide +kernel
theorem dX3_within_49 : decode cX3_within 49 = .ok (.invokevirtual 130, 3) := by decide +kernel
theorem dX3_within_52 : decode cX3_within 52 = .ok (.istore 6, 2) := by decide +kernel
theorem dX3_within_54 : decode cX3_within 54 = .ok (.iload 6, 2) := by decide +kernel
theorem dX3_within_56 : decode cX3_within 56 = .ok (.iconst (-1), 1) := by decide +kernel
theorem dX3_within_57 : decode cX3_within 57 = .ok (.if_icmp .eq 16, 3) := by decide +kernel
theorem dX3_within_60 : decode cX3_within 60 = .ok (.iload 6, 2) := by decide +kernel
theorem dX3_within_62 : decode cX3_within 62 = .ok (.iload_n 2, 1) := by decide +kernel
theorem dX3_within_63 : decode cX3_within 63 = .ok (.if_icmp .gt 10, 3) := by decide +kernel
theorem dX3_within_66 : decode cX3_within 66 = .ok (.lload_n 3, 1) := by decide +kernel
theorem dX3_within_67 : decode cX3_within 67 = .ok (.lconst 1, 1) := by decide +kernel
theorem dX3_within_68 : decode cX3_within 68 = .ok (.iload 5, 2) := by decide +kernel
theorem dX3_within_70 : decode cX3_within 70 = .ok (.lshl, 1) := by decide +kernel
theorem dX3_within_71 : decode cX3_within 71 = .ok (.lor, 1) := by decide +kernel
theorem dX3_within_72 : decode cX3_within 72 = .ok (.lstore_n 3, 1) := by decide +kernel
theorem dX3_within_73 : decode cX3_within 73 = .ok (.iinc 5 1, 3) := by decide +kernel
theorem dX3_within_76 : decode cX3_within 76 = .ok (.goto (-46), 3) := by decide +kernel
theorem dX3_within_79 : decode cX3_within 79 = .ok (.lload_n 3, 1) := by decide +kernel
theorem dX3_within_80 : decode cX3_within 80 = .ok (.lreturn, 1) := by decide +kernel
set_option maxRecDepth 20000 in
theorem ggX3_eccentricity_X3_requireLabelOf : GoodIn wsX3_eccentricity wsX3_requireLabelOf := goodIn_ca (goodIn_ca (goodIn_r _ [11, 12, 13, 14, 10, 15, 16, 17, 18, 19, 20, 21, 22, 23, 24, 1, 25, 26, 27, 28, 29, 30, 58, 59, 60, 61, 62, 63, 64, 65, 66] (by decide +kernel) (by decide +kernel)) (goodIn_sub (fun _ h => List.mem_cons_of_mem _ (List.mem_append_left _ (List.mem_append_right _ h))) (by decide +kernel))) (goodIn_sub (fun _ h => List.mem_cons_of_mem _ (List.mem_append_right _ h)) (by decide +kernel))
set_option maxRecDepth 20000 in
theorem gX3_eccentricity_X3_requireLabelOf : GoodIn wsX3_eccentricity (wsV RX3 99 RX3 yX3_requireLabelOf wsX3_requireLabelOf) := goodIn_app (goodIn_of _ (by decide +kernel)) ggX3_eccentricity_X3_requireLabelOf
set_option maxRecDepth 20000 in
theorem ggX3_eccentricity_X0_size : GoodIn wsX3_eccentricity wsX0_size := goodIn_r _ [34, 30, 64, 65, 66] (by decide +kernel) (by decide +kernel)
set_option maxRecDepth 20000 in
theorem gX3_eccentricity_X0_size : GoodIn wsX3_eccentricity (wsV RX3 57 RX0 yX0_size wsX0_size) := goodIn_app (goodIn_of _ (by decide +kernel)) ggX3_eccentricity_X0_size
set_option maxRecDepth 20000 in
theorem ggX3_eccentricity_X1_estimate : GoodIn wsX3_eccentricity wsX1_estimate := goodIn_r _ [39, 40, 41, 42, 38, 43, 44, 45, 46, 47, 48, 49, 10, 50, 51, 52, 53, 54, 55, 56, 57, 67, 68, 69, 70, 71, 72] (by decide +kernel) (by decide +kernel)
set_option maxRecDepth 20000 in
theorem gX3_eccentricity_X1_estimate : GoodIn wsX3_eccentricity (wsV RX3 130 RX1 yX1_estimate wsX1_estimate) := goodIn_app (goodIn_of _ (by decide +kernel)) ggX3_eccentricity_X1_estimate
theorem dX3_eccentricity_0 : decode cX3_eccentricity 0 = .ok (.aload_n 0, 1) := by decide +kernel
theorem dX3_eccentricity_1 : decode cX3_eccentricity 1 = .ok (.iload_n 1, 1) := by decide +kernel
theorem dX3_eccentricity_2 : decode cX3_eccentricity 2 = .ok (.invokevirtual 99, 3) := by decide +kernel
theorem dX3_eccentricity_5 : decode cX3_eccentricity 5 = .ok (.iconst 0, 1) := by decide +kernel
theorem dX3_eccentricity_6 : decode cX3_eccentricity 6 = .ok (.istore_n 2, 1) := by decide +kernel
theorem dX3_eccentricity_7 : decode cX3_eccentricity 7 = .ok (.iconst 0, 1) := by decide +kernel
theorem dX3_eccentricity_8 : decode cX3_eccentricity 8 = .ok (.istore_n 3, 1) := by decide +kernel
theorem dX3_eccentricity_9 : decode cX3_eccentricity 9 = .ok (.iload_n 3, 1) := by decide +kernel
theorem dX3_eccentricity_10 : decode cX3_eccentricity 10 = .ok (.aload_n 0, 1) := by decide +kernel
theorem dX3_eccentricity_11 : decode cX3_eccentricity 11 = .ok (.getfield 10, 3) := by decide +kernel
theorem dX3_eccentricity_14 : decode cX3_eccentricity 14 = .ok (.invokevirtual 57, 3) := by decide +kernel
theorem dX3_eccentricity_17 : decode cX3_eccentricity 17 = .ok (.if_icmp .ge 23, 3) := by decide +kernel
theorem dX3_eccentricity_20 : decode cX3_eccentricity 20 = .ok (.iload_n 2, 1) := by decide +kernel
theorem dX3_eccentricity_21 : decode cX3_eccentricity 21 = .ok (.aload_n 0, 1) := by decide +kernel
theorem dX3_eccentricity_22 : decode cX3_eccentricity 22 = .ok (.getfield 19, 3) := by decide +kernel
theorem dX3_eccentricity_25 : decode cX3_eccentricity 25 = .ok (.iload_n 1, 1) := by decide +kernel
theorem dX3_eccentricity_26 : decode cX3_eccentricity 26 = .ok (.iload_n 3, 1) := by decide +kernel
theorem dX3_eccentricity_27 : decode cX3_eccentricity 27 = .ok (.invokevirtual 130, 3) := by decide +kernel
theorem dX3_eccentricity_30 : decode cX3_eccentricity 30 = .ok (.invokestatic 144, 3) := by decide +kernel
theorem dX3_eccentricity_33 : decode cX3_eccentricity 33 = .ok (.istore_n 2, 1) := by decide +kernel
theorem dX3_eccentricity_34 : decode cX3_eccentricity 34 = .ok (.iinc 3 1, 3) := by decide +kernel
theorem dX3_eccentricity_37 : decode cX3_eccentricity 37 = .ok (.goto (-28), 3) := by decide +kernel
theorem dX3_eccentricity_40 : decode cX3_eccentricity 40 = .ok (.iload_n 2, 1) := by decide +kernel
theorem dX3_eccentricity_41 : decode cX3_eccentricity 41 = .ok (.ireturn, 1) := by decide +kernel
set_option maxRecDepth 20000 in
theorem ggX3_pruned_X2_countOfPruned : GoodIn wsX3_pruned wsX2_countOfPruned := goodIn_r _ [6, 7, 14, 15, 16, 17, 18, 19, 20, 21, 22, 23] (by decide +kernel) (by decide +kernel)
set_option maxRecDepth 20000 in
theorem gX3_pruned_X2_countOfPruned : GoodIn wsX3_pruned (wsV RX3 149 RX2 yX2_countOfPruned wsX2_countOfPruned) := goodIn_app (goodIn_of _ (by decide +kernel)) ggX3_pruned_X2_countOfPruned
theorem dX3_pruned_0 : decode cX3_pruned 0 = .ok (.aload_n 0, 1) := by decide +kernel
theorem dX3_pruned_1 : decode cX3_pruned 1 = .ok (.getfield 28, 3) := by decide +kernel
theorem dX3_pruned_4 : decode cX3_pruned 4 = .ok (.invokevirtual 149, 3) := by decide +kernel
theorem dX3_pruned_7 : decode cX3_pruned 7 = .ok (.ireturn, 1) := by decide +kernel
set_option maxRecDepth 20000 in
theorem ggX3_written_X2_countOfWritten : GoodIn wsX3_written wsX2_countOfWritten := goodIn_r _ [6, 7, 14, 15, 16, 17, 18, 19, 20, 21, 22, 23] (by decide +kernel) (by decide +kernel)
set_option maxRecDepth 20000 in
theorem gX3_written_X2_countOfWritten : GoodIn wsX3_written (wsV RX3 152 RX2 yX2_countOfWritten wsX2_countOfWritten) := goodIn_app (goodIn_of _ (by decide +kernel)) ggX3_written_X2_countOfWritten
theorem dX3_written_0 : decode cX3_written 0 = .ok (.aload_n 0, 1) := by decide +kernel
theorem dX3_written_1 : decode cX3_written 1 = .ok (.getfield 28, 3) := by decide +kernel
theorem dX3_written_4 : decode cX3_written 4 = .ok (.invokevirtual 152, 3) := by decide +kernel
theorem dX3_written_7 : decode cX3_written 7 = .ok (.ireturn, 1) := by decide +kernel
set_option maxRecDepth 20000 in
theorem ggX3_appendVertex_X0_grow : GoodIn wsX3_appendVertex wsX0_grow := goodIn_r _ [8, 9, 38, 39, 40] (by decide +kernel) (by decide +kernel)
set_option maxRecDepth 20000 in
theorem gX3_appendVertex_X0_grow : GoodIn wsX3_appendVertex (wsV RX3 155 RX0 yX0_grow wsX0_grow) := goodIn_app (goodIn_of _ (by decide +kernel)) ggX3_appendVertex_X0_grow
set_option maxRecDepth 20000 in
theorem ggX3_appendVertex_X1_rankNext : GoodIn wsX3_appendVertex wsX1_rankNext := goodIn_r _ [14, 15, 16, 17, 18, 19, 20, 41, 42, 43, 44, 45, 46] (by decide +kernel) (by decide +kernel)
set_option maxRecDepth 20000 in
theorem gX3_appendVertex_X1_rankNext : GoodIn wsX3_appendVertex (wsV RX3 158 RX1 yX1_rankNext wsX1_rankNext) := goodIn_app (goodIn_of _ (by decide +kernel)) ggX3_appendVertex_X1_rankNext
set_option maxRecDepth 20000 in
theorem ggX3_appendVertex_X1_rankOf : GoodIn wsX3_appendVertex wsX1_rankOf := goodIn_r _ [24, 16, 18, 19, 20, 41, 42, 43, 44, 45, 46] (by decide +kernel) (by decide +kernel)
set_option maxRecDepth 20000 in
theorem gX3_appendVertex_X1_rankOf : GoodIn wsX3_appendVertex (wsV RX3 102 RX1 yX1_rankOf wsX1_rankOf) := goodIn_app (goodIn_of _ (by decide +kernel)) ggX3_appendVertex_X1_rankOf
set_option maxRecDepth 20000 in
theorem ggX3_appendVertex_X1_put : GoodIn wsX3_appendVertex wsX1_put := goodIn_r _ [28, 29, 30, 31, 18, 19, 20, 41, 42, 43, 44, 45, 46] (by decide +kernel) (by decide +kernel)
set_option maxRecDepth 20000 in
theorem gX3_appendVertex_X1_put : GoodIn wsX3_appendVertex (wsV RX3 161 RX1 yX1_put wsX1_put) := goodIn_app (goodIn_of _ (by decide +kernel)) ggX3_appendVertex_X1_put
theorem dX3_appendVertex_0 : decode cX3_appendVertex 0 = .ok (.aload_n 0, 1) := by decide +kernel
theorem dX3_appendVertex_1 : decode cX3_appendVertex 1 = .ok (.getfield 10, 3) := by decide +kernel
theorem dX3_appendVertex_4 : decode cX3_appendVertex 4 = .ok (.invokevirtual 155, 3) := by decide +kernel
theorem dX3_appendVertex_7 : decode cX3_appendVertex 7 = .ok (.istore_n 1, 1) := by decide +kernel
theorem dX3_appendVertex_8 : decode cX3_appendVertex 8 = .ok (.aload_n 0, 1) := by decide +kernel
theorem dX3_appendVertex_9 : decode cX3_appendVertex 9 = .ok (.getfield 38, 3) := by decide +kernel
theorem dX3_appendVertex_12 : decode cX3_appendVertex 12 = .ok (.ifCond .eq 29, 3) := by decide +kernel
theorem dX3_appendVertex_15 : decode cX3_appendVertex 15 = .ok (.aload_n 0, 1) := by decide +kernel
theorem dX3_appendVertex_16 : decode cX3_appendVertex 16 = .ok (.getfield 19, 3) := by decide +kernel
theorem dX3_appendVertex_19 : decode cX3_appendVertex 19 = .ok (.iload_n 1, 1) := by decide +kernel
theorem dX3_appendVertex_20 : decode cX3_appendVertex 20 = .ok (.invokevirtual 158, 3) := by decide +kernel
theorem dX3_appendVertex_23 : decode cX3_appendVertex 23 = .ok (.aload_n 0, 1) := by decide +kernel
theorem dX3_appendVertex_24 : decode cX3_appendVertex 24 = .ok (.getfield 19, 3) := by decide +kernel
theorem dX3_appendVertex_27 : decode cX3_appendVertex 27 = .ok (.aload_n 0, 1) := by decide +kernel
theorem dX3_appendVertex_28 : decode cX3_appendVertex 28 = .ok (.getfield 19, 3) := by decide +kernel
theorem dX3_appendVertex_31 : decode cX3_appendVertex 31 = .ok (.iload_n 1, 1) := by decide +kernel
theorem dX3_appendVertex_32 : decode cX3_appendVertex 32 = .ok (.invokevirtual 102, 3) := by decide +kernel
theorem dX3_appendVertex_35 : decode cX3_appendVertex 35 = .ok (.iload_n 1, 1) := by decide +kernel
theorem dX3_appendVertex_36 : decode cX3_appendVertex 36 = .ok (.iconst 0, 1) := by decide +kernel
theorem dX3_appendVertex_37 : decode cX3_appendVertex 37 = .ok (.iconst (-1), 1) := by decide +kernel
theorem dX3_appendVertex_38 : decode cX3_appendVertex 38 = .ok (.invokevirtual 161, 3) := by decide +kernel
theorem dX3_appendVertex_41 : decode cX3_appendVertex 41 = .ok (.iload_n 1, 1) := by decide +kernel
theorem dX3_appendVertex_42 : decode cX3_appendVertex 42 = .ok (.ireturn, 1) := by decide +kernel
set_option maxRecDepth 20000 in
theorem ggX3_requireRoomFor_X0_size : GoodIn wsX3_requireRoomFor wsX0_size := goodIn_r _ [8, 9, 16, 17, 18] (by decide +kernel) (by decide +kernel)
set_option maxRecDepth 20000 in
theorem gX3_requireRoomFor_X0_size : GoodIn wsX3_requireRoomFor (wsV RX3 57 RX0 yX0_size wsX0_size) := goodIn_app (goodIn_of _ (by decide +kernel)) ggX3_requireRoomFor_X0_size
theorem dX3_requireRoomFor_0 : decode cX3_requireRoomFor 0 = .ok (.iload_n 1, 1) := by decide +kernel
theorem dX3_requireRoomFor_1 : decode cX3_requireRoomFor 1 = .ok (.bipush 48, 2) := by decide +kernel
theorem dX3_requireRoomFor_3 : decode cX3_requireRoomFor 3 = .ok (.aload_n 0, 1) := by decide +kernel
theorem dX3_requireRoomFor_4 : decode cX3_requireRoomFor 4 = .ok (.getfield 10, 3) := by decide +kernel
theorem dX3_requireRoomFor_7 : decode cX3_requireRoomFor 7 = .ok (.invokevirtual 57, 3) := by decide +kernel
theorem dX3_requireRoomFor_10 : decode cX3_requireRoomFor 10 = .ok (.isub, 1) := by decide +kernel
theorem dX3_requireRoomFor_11 : decode cX3_requireRoomFor 11 = .ok (.if_icmp .le 13, 3) := by decide +kernel
theorem dX3_requireRoomFor_14 : decode cX3_requireRoomFor 14 = .ok (.new 67, 3) := by decide +kernel
theorem dX3_requireRoomFor_17 : decode cX3_requireRoomFor 17 = .ok (.dup, 1) := by decide +kernel
theorem dX3_requireRoomFor_18 : decode cX3_requireRoomFor 18 = .ok (.ldc 165, 2) := by decide +kernel
theorem dX3_requireRoomFor_20 : decode cX3_requireRoomFor 20 = .ok (.invokespecial 71, 3) := by decide +kernel
theorem dX3_requireRoomFor_23 : decode cX3_requireRoomFor 23 = .ok (.athrow, 1) := by decide +kernel
theorem dX3_requireRoomFor_24 : decode cX3_requireRoomFor 24 = .ok (.return_, 1) := by decide +kernel
set_option maxRecDepth 20000 in
theorem ggX3_requireVertex_X0_has : GoodIn wsX3_requireVertex wsX0_has := goodIn_r _ [8, 9, 16, 17, 18] (by decide +kernel) (by decide +kernel)
set_option maxRecDepth 20000 in
theorem gX3_requireVertex_X0_has : GoodIn wsX3_requireVertex (wsV RX3 167 RX0 yX0_has wsX0_has) := goodIn_app (goodIn_of _ (by decide +kernel)) ggX3_requireVertex_X0_has
theorem dX3_requireVertex_0 : decode cX3_requireVertex 0 = .ok (.aload_n 0, 1) := by decide +kernel
theorem dX3_requireVertex_1 : decode cX3_requireVertex 1 = .ok (.getfield 10, 3) := by decide +kernel
theorem dX3_requireVertex_4 : decode cX3_requireVertex 4 = .ok (.iload_n 1, 1) := by decide +kernel
theorem dX3_requireVertex_5 : decode cX3_requireVertex 5 = .ok (.invokevirtual 167, 3) := by decide +kernel
theorem dX3_requireVertex_8 : decode cX3_requireVertex 8 = .ok (.ifCond .ne 13, 3) := by decide +kernel
theorem dX3_requireVertex_11 : decode cX3_requireVertex 11 = .ok (.new 171, 3) := by decide +kernel
theorem dX3_requireVertex_14 : decode cX3_requireVertex 14 = .ok (.dup, 1) := by decide +kernel
theorem dX3_requireVertex_15 : decode cX3_requireVertex 15 = .ok (.ldc 173, 2) := by decide +kernel
theorem dX3_requireVertex_17 : decode cX3_requireVertex 17 = .ok (.invokespecial 175, 3) := by decide +kernel
theorem dX3_requireVertex_20 : decode cX3_requireVertex 20 = .ok (.athrow, 1) := by decide +kernel
theorem dX3_requireVertex_21 : decode cX3_requireVertex 21 = .ok (.return_, 1) := by decide +kernel
set_option maxRecDepth 20000 in
theorem ggX3_requireLabelOf_X3_requireLabelsOf : GoodIn wsX3_requireLabelOf wsX3_requireLabelsOf := goodIn_ca (goodIn_ca (goodIn_r _ [5, 6, 7, 8, 9, 10, 11, 4, 12, 13, 14, 15, 16, 17, 18, 19, 20, 21, 22, 23, 24, 25, 26, 27, 28, 29, 30] (by decide +kernel) (by decide +kernel)) (goodIn_sub (fun _ h => List.mem_cons_of_mem _ (List.mem_append_left _ (List.mem_append_right _ h))) (by decide +kernel))) (goodIn_sub (fun _ h => List.mem_cons_of_mem _ (List.mem_append_right _ h)) (by decide +kernel))
set_option maxRecDepth 20000 in
theorem gX3_requireLabelOf_X3_requireLabelsOf : GoodIn wsX3_requireLabelOf (wsV RX3 127 RX3 yX3_requireLabelsOf wsX3_requireLabelsOf) := goodIn_app (goodIn_of _ (by decide +kernel)) ggX3_requireLabelOf_X3_requireLabelsOf
theorem dX3_requireLabelOf_0 : decode cX3_requireLabelOf 0 = .ok (.aload_n 0, 1) := by decide +kernel
theorem dX3_requireLabelOf_1 : decode cX3_requireLabelOf 1 = .ok (.iload_n 1, 1) := by decide +kernel
theorem dX3_requireLabelOf_2 : decode cX3_requireLabelOf 2 = .ok (.iload_n 1, 1) := by decide +kernel
theorem dX3_requireLabelOf_3 : decode cX3_requireLabelOf 3 = .ok (.invokevirtual 127, 3) := by decide +kernel
theorem dX3_requireLabelOf_6 : decode cX3_requireLabelOf 6 = .ok (.return_, 1) := by decide +kernel
set_option maxRecDepth 20000 in
theorem ggX3_requireLabelsOf_X3_requireVertex : GoodIn wsX3_requireLabelsOf wsX3_requireVertex := goodIn_ca (goodIn_r _ [8, 9, 10, 11, 12, 13, 14, 15, 16, 17, 18, 19, 20, 21, 22, 23, 24, 25, 26] (by decide +kernel) (by decide +kernel)) (goodIn_sub (fun _ h => List.mem_cons_of_mem _ (List.mem_append_right _ h)) (by decide +kernel))
set_option maxRecDepth 20000 in
theorem gX3_requireLabelsOf_X3_requireVertex : GoodIn wsX3_requireLabelsOf (wsV RX3 60 RX3 yX3_requireVertex wsX3_requireVertex) := goodIn_app (goodIn_of _ (by decide +kernel)) ggX3_requireLabelsOf_X3_requireVertex
theorem dX3_requireLabelsOf_0 : decode cX3_requireLabelsOf 0 = .ok (.aload_n 0, 1) := by decide +kernel
theorem dX3_requireLabelsOf_1 : decode cX3_requireLabelsOf 1 = .ok (.iload_n 1, 1) := by decide +kernel
theorem dX3_requireLabelsOf_2 : decode cX3_requireLabelsOf 2 = .ok (.invokevirtual 60, 3) := by decide +kernel
theorem dX3_requireLabelsOf_5 : decode cX3_requireLabelsOf 5 = .ok (.aload_n 0, 1) := by decide +kernel
theorem dX3_requireLabelsOf_6 : decode cX3_requireLabelsOf 6 = .ok (.iload_n 2, 1) := by decide +kernel
theorem dX3_requireLabelsOf_7 : decode cX3_requireLabelsOf 7 = .ok (.invokevirtual 60, 3) := by decide +kernel
theorem dX3_requireLabelsOf_10 : decode cX3_requireLabelsOf 10 = .ok (.aload_n 0, 1) := by decide +kernel
theorem dX3_requireLabelsOf_11 : decode cX3_requireLabelsOf 11 = .ok (.getfield 38, 3) := by decide +kernel
theorem dX3_requireLabelsOf_14 : decode cX3_requireLabelsOf 14 = .ok (.ifCond .ne 13, 3) := by decide +kernel
theorem dX3_requireLabelsOf_17 : decode cX3_requireLabelsOf 17 = .ok (.new 67, 3) := by decide +kernel
theorem dX3_requireLabelsOf_20 : decode cX3_requireLabelsOf 20 = .ok (.dup, 1) := by decide +kernel
theorem dX3_requireLabelsOf_21 : decode cX3_requireLabelsOf 21 = .ok (.ldc 176, 2) := by decide +kernel
theorem dX3_requireLabelsOf_23 : decode cX3_requireLabelsOf 23 = .ok (.invokespecial 71, 3) := by decide +kernel
theorem dX3_requireLabelsOf_26 : decode cX3_requireLabelsOf 26 = .ok (.athrow, 1) := by decide +kernel
theorem dX3_requireLabelsOf_27 : decode cX3_requireLabelsOf 27 = .ok (.return_, 1) := by decide +kernel
set_option maxRecDepth 20000 in
theorem ggX3_requireEntry_X1_countOf : GoodIn wsX3_requireEntry wsX1_countOf := goodIn_r _ [8, 9, 10, 11, 12, 13, 14, 15, 16, 17, 18, 19, 26, 27, 28, 29, 30, 31] (by decide +kernel) (by decide +kernel)
set_option maxRecDepth 20000 in
theorem gX3_requireEntry_X1_countOf : GoodIn wsX3_requireEntry (wsV RX3 109 RX1 yX1_countOf wsX1_countOf) := goodIn_app (goodIn_of _ (by decide +kernel)) ggX3_requireEntry_X1_countOf
theorem dX3_requireEntry_0 : decode cX3_requireEntry 0 = .ok (.iload_n 2, 1) := by decide +kernel
theorem dX3_requireEntry_1 : decode cX3_requireEntry 1 = .ok (.ifCond .lt 15, 3) := by decide +kernel
theorem dX3_requireEntry_4 : decode cX3_requireEntry 4 = .ok (.iload_n 2, 1) := by decide +kernel
theorem dX3_requireEntry_5 : decode cX3_requireEntry 5 = .ok (.aload_n 0, 1) := by decide +kernel
theorem dX3_requireEntry_6 : decode cX3_requireEntry 6 = .ok (.getfield 19, 3) := by decide +kernel
theorem dX3_requireEntry_9 : decode cX3_requireEntry 9 = .ok (.iload_n 1, 1) := by decide +kernel
theorem dX3_requireEntry_10 : decode cX3_requireEntry 10 = .ok (.invokevirtual 109, 3) := by decide +kernel
theorem dX3_requireEntry_13 : decode cX3_requireEntry 13 = .ok (.if_icmp .lt 13, 3) := by decide +kernel
theorem dX3_requireEntry_16 : decode cX3_requireEntry 16 = .ok (.new 50, 3) := by decide +kernel
theorem dX3_requireEntry_19 : decode cX3_requireEntry 19 = .ok (.dup, 1) := by decide +kernel
theorem dX3_requireEntry_20 : decode cX3_requireEntry 20 = .ok (.ldc 178, 2) := by decide +kernel
theorem dX3_requireEntry_22 : decode cX3_requireEntry 22 = .ok (.invokespecial 54, 3) := by decide +kernel
theorem dX3_requireEntry_25 : decode cX3_requireEntry 25 = .ok (.athrow, 1) := by decide +kernel
theorem dX3_requireEntry_26 : decode cX3_requireEntry 26 = .ok (.return_, 1) := by decide +kernel
theorem dX3_isRow_0 : decode cX3_isRow 0 = .ok (.iload_n 0, 1) := by decide +kernel
theorem dX3_isRow_1 : decode cX3_isRow 1 = .ok (.ifCond .lt 13, 3) := by decide +kernel
theorem dX3_isRow_4 : decode cX3_isRow 4 = .ok (.iload_n 0, 1) := by decide +kernel
theorem dX3_isRow_5 : decode cX3_isRow 5 = .ok (.bipush 48, 2) := by decide +kernel
theorem dX3_isRow_7 : decode cX3_isRow 7 = .ok (.if_icmp .ge 7, 3) := by decide +kernel
theorem dX3_isRow_10 : decode cX3_isRow 10 = .ok (.iconst 1, 1) := by decide +kernel
theorem dX3_isRow_11 : decode cX3_isRow 11 = .ok (.goto 4, 3) := by decide +kernel
theorem dX3_isRow_14 : decode cX3_isRow 14 = .ok (.iconst 0, 1) := by decide +kernel
theorem dX3_isRow_15 : decode cX3_isRow 15 = .ok (.ireturn, 1) := by decide +kernel
theorem dX3_hasBit_0 : decode cX3_hasBit 0 = .ok (.lload_n 0, 1) := by decide +kernel
theorem dX3_hasBit_1 : decode cX3_hasBit 1 = .ok (.iload_n 2, 1) := by decide +kernel
theorem dX3_hasBit_2 : decode cX3_hasBit 2 = .ok (.lushr, 1) := by decide +kernel
theorem dX3_hasBit_3 : decode cX3_hasBit 3 = .ok (.lconst 1, 1) := by decide +kernel
theorem dX3_hasBit_4 : decode cX3_hasBit 4 = .ok (.land, 1) := by decide +kernel
theorem dX3_hasBit_5 : decode cX3_hasBit 5 = .ok (.lconst 0, 1) := by decide +kernel
theorem dX3_hasBit_6 : decode cX3_hasBit 6 = .ok (.lcmp, 1) := by decide +kernel
theorem dX3_hasBit_7 : decode cX3_hasBit 7 = .ok (.ifCond .eq 7, 3) := by decide +kernel
theorem dX3_hasBit_10 : decode cX3_hasBit 10 = .ok (.iconst 1, 1) := by decide +kernel
theorem dX3_hasBit_11 : decode cX3_hasBit 11 = .ok (.goto 4, 3) := by decide +kernel
theorem dX3_hasBit_14 : decode cX3_hasBit 14 = .ok (.iconst 0, 1) := by decide +kernel
theorem dX3_hasBit_15 : decode cX3_hasBit 15 = .ok (.ireturn, 1) := by decide +kernel
theorem dJ13_bitCount_95d88_0 : decode cJ13_bitCount_95d88 0 = .ok (.lload_n 0, 1) := by decide +kernel
theorem dJ13_bitCount_95d88_1 : decode cJ13_bitCount_95d88 1 = .ok (.lload_n 0, 1) := by decide +kernel
theorem dJ13_bitCount_95d88_2 : decode cJ13_bitCount_95d88 2 = .ok (.iconst 1, 1) := by decide +kernel
theorem dJ13_bitCount_95d88_3 : decode cJ13_bitCount_95d88 3 = .ok (.lushr, 1) := by decide +kernel
theorem dJ13_bitCount_95d88_4 : decode cJ13_bitCount_95d88 4 = .ok (.ldc2_w 314, 3) := by decide +kernel
theorem dJ13_bitCount_95d88_7 : decode cJ13_bitCount_95d88 7 = .ok (.land, 1) := by decide +kernel
theorem dJ13_bitCount_95d88_8 : decode cJ13_bitCount_95d88 8 = .ok (.lsub, 1) := by decide +kernel
theorem dJ13_bitCount_95d88_9 : decode cJ13_bitCount_95d88 9 = .ok (.lstore_n 0, 1) := by decide +kernel
theorem dJ13_bitCount_95d88_10 : decode cJ13_bitCount_95d88 10 = .ok (.lload_n 0, 1) := by decide +kernel
theorem dJ13_bitCount_95d88_11 : decode cJ13_bitCount_95d88 11 = .ok (.ldc2_w 316, 3) := by decide +kernel
theorem dJ13_bitCount_95d88_14 : decode cJ13_bitCount_95d88 14 = .ok (.land, 1) := by decide +kernel
theorem dJ13_bitCount_95d88_15 : decode cJ13_bitCount_95d88 15 = .ok (.lload_n 0, 1) := by decide +kernel
theorem dJ13_bitCount_95d88_16 : decode cJ13_bitCount_95d88 16 = .ok (.iconst 2, 1) := by decide +kernel
theorem dJ13_bitCount_95d88_17 : decode cJ13_bitCount_95d88 17 = .ok (.lushr, 1) := by decide +kernel
theorem dJ13_bitCount_95d88_18 : decode cJ13_bitCount_95d88 18 = .ok (.ldc2_w 316, 3) := by decide +kernel
theorem dJ13_bitCount_95d88_21 : decode cJ13_bitCount_95d88 21 = .ok (.land, 1) := by decide +kernel
theorem dJ13_bitCount_95d88_22 : decode cJ13_bitCount_95d88 22 = .ok (.ladd, 1) := by decide +kernel
theorem dJ13_bitCount_95d88_23 : decode cJ13_bitCount_95d88 23 = .ok (.lstore_n 0, 1) := by decide +kernel
theorem dJ13_bitCount_95d88_24 : decode cJ13_bitCount_95d88 24 = .ok (.lload_n 0, 1) := by decide +kernel
theorem dJ13_bitCount_95d88_25 : decode cJ13_bitCount_95d88 25 = .ok (.lload_n 0, 1) := by decide +kernel
theorem dJ13_bitCount_95d88_26 : decode cJ13_bitCount_95d88 26 = .ok (.iconst 4, 1) := by decide +kernel
theorem dJ13_bitCount_95d88_27 : decode cJ13_bitCount_95d88 27 = .ok (.lushr, 1) := by decide +kernel
theorem dJ13_bitCount_95d88_28 : decode cJ13_bitCount_95d88 28 = .ok (.ladd, 1) := by decide +kernel
theorem dJ13_bitCount_95d88_29 : decode cJ13_bitCount_95d88 29 = .ok (.ldc2_w 318, 3) := by decide +kernel
theorem dJ13_bitCount_95d88_32 : decode cJ13_bitCount_95d88 32 = .ok (.land, 1) := by decide +kernel
theorem dJ13_bitCount_95d88_33 : decode cJ13_bitCount_95d88 33 = .ok (.lstore_n 0, 1) := by decide +kernel
theorem dJ13_bitCount_95d88_34 : decode cJ13_bitCount_95d88 34 = .ok (.lload_n 0, 1) := by decide +kernel
theorem dJ13_bitCount_95d88_35 : decode cJ13_bitCount_95d88 35 = .ok (.lload_n 0, 1) := by decide +kernel
theorem dJ13_bitCount_95d88_36 : decode cJ13_bitCount_95d88 36 = .ok (.bipush 8, 2) := by decide +kernel
theorem dJ13_bitCount_95d88_38 : decode cJ13_bitCount_95d88 38 = .ok (.lushr, 1) := by decide +kernel
theorem dJ13_bitCount_95d88_39 : decode cJ13_bitCount_95d88 39 = .ok (.ladd, 1) := by decide +kernel
theorem dJ13_bitCount_95d88_40 : decode cJ13_bitCount_95d88 40 = .ok (.lstore_n 0, 1) := by decide +kernel
theorem dJ13_bitCount_95d88_41 : decode cJ13_bitCount_95d88 41 = .ok (.lload_n 0, 1) := by decide +kernel
theorem dJ13_bitCount_95d88_42 : decode cJ13_bitCount_95d88 42 = .ok (.lload_n 0, 1) := by decide +kernel
theorem dJ13_bitCount_95d88_43 : decode cJ13_bitCount_95d88 43 = .ok (.bipush 16, 2) := by decide +kernel
theorem dJ13_bitCount_95d88_45 : decode cJ13_bitCount_95d88 45 = .ok (.lushr, 1) := by decide +kernel
theorem dJ13_bitCount_95d88_46 : decode cJ13_bitCount_95d88 46 = .ok (.ladd, 1) := by decide +kernel
theorem dJ13_bitCount_95d88_47 : decode cJ13_bitCount_95d88 47 = .ok (.lstore_n 0, 1) := by decide +kernel
theorem dJ13_bitCount_95d88_48 : decode cJ13_bitCount_95d88 48 = .ok (.lload_n 0, 1) := by decide +kernel
theorem dJ13_bitCount_95d88_49 : decode cJ13_bitCount_95d88 49 = .ok (.lload_n 0, 1) := by decide +kernel
theorem dJ13_bitCount_95d88_50 : decode cJ13_bitCount_95d88 50 = .ok (.bipush 32, 2) := by decide +kernel
theorem dJ13_bitCount_95d88_52 : decode cJ13_bitCount_95d88 52 = .ok (.lushr, 1) := by decide +kernel
theorem dJ13_bitCount_95d88_53 : decode cJ13_bitCount_95d88 53 = .ok (.ladd, 1) := by decide +kernel
theorem dJ13_bitCount_95d88_54 : decode cJ13_bitCount_95d88 54 = .ok (.lstore_n 0, 1) := by decide +kernel
theorem dJ13_bitCount_95d88_55 : decode cJ13_bitCount_95d88 55 = .ok (.lload_n 0, 1) := by decide +kernel
theorem dJ13_bitCount_95d88_56 : decode cJ13_bitCount_95d88 56 = .ok (.l2i, 1) := by decide +kernel
theorem dJ13_bitCount_95d88_57 : decode cJ13_bitCount_95d88 57 = .ok (.bipush 127, 2) := by decide +kernel
theorem dJ13_bitCount_95d88_59 : decode cJ13_bitCount_95d88 59 = .ok (.iand, 1) := by decide +kernel
theorem dJ13_bitCount_95d88_60 : decode cJ13_bitCount_95d88 60 = .ok (.ireturn, 1) := by decide +kernel
theorem dJ9_max_7cf53_0 : decode cJ9_max_7cf53 0 = .ok (.iload_n 0, 1) := by decide +kernel
theorem dJ9_max_7cf53_1 : decode cJ9_max_7cf53 1 = .ok (.iload_n 1, 1) := by decide +kernel
theorem dJ9_max_7cf53_2 : decode cJ9_max_7cf53 2 = .ok (.if_icmp .lt 7, 3) := by decide +kernel
theorem dJ9_max_7cf53_5 : decode cJ9_max_7cf53 5 = .ok (.iload_n 0, 1) := by decide +kernel
theorem dJ9_max_7cf53_6 : decode cJ9_max_7cf53 6 = .ok (.goto 4, 3) := by decide +kernel
theorem dJ9_max_7cf53_9 : decode cJ9_max_7cf53 9 = .ok (.iload_n 1, 1) := by decide +kernel
theorem dJ9_max_7cf53_10 : decode cJ9_max_7cf53 10 = .ok (.ireturn, 1) := by decide +kernel
