/-! names: the law's helpers -/
set_option maxRecDepth 20000 in
theorem ggL_addVertex_X3_addVertex : GoodIn wsL_addVertex wsX3_addVertex := goodIn_ca (goodIn_r _ [6, 7, 8, 9, 5, 10, 11, 12, 13, 14, 15, 16, 17, 18, 19, 20, 21, 22, 23, 24, 25, 26, 27, 28, 29, 30, 31, 32, 33, 34, 35, 36, 37, 38, 39, 40, 41, 42, 43, 44, 45, 46, 47, 48, 49, 50, 51, 52, 53, 54, 55, 56, 57, 58, 59, 60, 61, 62, 63, 64, 65] (by decide +kernel) (by decide +kernel)) (goodIn_sub (fun _ h => List.mem_cons_of_mem _ (List.mem_append_right _ h)) (by decide +kernel))
set_option maxRecDepth 20000 in
theorem gL_addVertex_X3_addVertex : GoodIn wsL_addVertex (wsV RL 7 RX3 yX3_addVertex wsX3_addVertex) := goodIn_app (goodIn_of _ (by decide +kernel)) ggL_addVertex_X3_addVertex
theorem dL_addVertex_0 : decode cL_addVertex 0 = .ok (.aload_n 1, 1) := by decide +kernel
theorem dL_addVertex_1 : decode cL_addVertex 1 = .ok (.iconst 0, 1) := by decide +kernel
theorem dL_addVertex_2 : decode cL_addVertex 2 = .ok (.aload_n 0, 1) := by decide +kernel
theorem dL_addVertex_3 : decode cL_addVertex 3 = .ok (.invokevirtual 7, 3) := by decide +kernel
theorem dL_addVertex_6 : decode cL_addVertex 6 = .ok (.i2l, 1) := by decide +kernel
theorem dL_addVertex_7 : decode cL_addVertex 7 = .ok (.lastore, 1) := by decide +kernel
theorem dL_addVertex_8 : decode cL_addVertex 8 = .ok (.goto 6, 3) := by decide +kernel
theorem dL_addVertex_11 : decode cL_addVertex 11 = .ok (.astore_n 2, 1) := by decide +kernel
theorem dL_addVertex_12 : decode cL_addVertex 12 = .ok (.iconst 1, 1) := by decide +kernel
theorem dL_addVertex_13 : decode cL_addVertex 13 = .ok (.ireturn, 1) := by decide +kernel
theorem dL_addVertex_14 : decode cL_addVertex 14 = .ok (.iconst 0, 1) := by decide +kernel
theorem dL_addVertex_15 : decode cL_addVertex 15 = .ok (.ireturn, 1) := by decide +kernel
set_option maxRecDepth 20000 in
theorem ggL_addVertices_X3_addVertices : GoodIn wsL_addVertices wsX3_addVertices := goodIn_ca (goodIn_ca (goodIn_r _ [7, 8, 9, 10, 11, 12, 13, 6, 14, 15, 16, 17, 18, 19, 20, 21, 22, 23, 24, 25, 26, 27, 28, 29, 30, 31, 32, 33, 34, 35, 36, 37, 38, 39, 40, 41, 42, 43, 44, 45, 46, 47, 48, 49, 50, 51, 52, 53, 54, 55, 56, 57, 58, 59, 60, 61, 62, 63, 64, 65, 66, 67, 68] (by decide +kernel) (by decide +kernel)) (goodIn_sub (fun _ h => List.mem_cons_of_mem _ (List.mem_append_left _ (List.mem_append_right _ h))) (by decide +kernel))) (goodIn_sub (fun _ h => List.mem_cons_of_mem _ (List.mem_append_right _ h)) (by decide +kernel))
set_option maxRecDepth 20000 in
theorem gL_addVertices_X3_addVertices : GoodIn wsL_addVertices (wsV RL 15 RX3 yX3_addVertices wsX3_addVertices) := goodIn_app (goodIn_of _ (by decide +kernel)) ggL_addVertices_X3_addVertices
theorem dL_addVertices_0 : decode cL_addVertices 0 = .ok (.aload_n 2, 1) := by decide +kernel
theorem dL_addVertices_1 : decode cL_addVertices 1 = .ok (.iconst 0, 1) := by decide +kernel
theorem dL_addVertices_2 : decode cL_addVertices 2 = .ok (.aload_n 0, 1) := by decide +kernel
theorem dL_addVertices_3 : decode cL_addVertices 3 = .ok (.iload_n 1, 1) := by decide +kernel
theorem dL_addVertices_4 : decode cL_addVertices 4 = .ok (.invokevirtual 15, 3) := by decide +kernel
theorem dL_addVertices_7 : decode cL_addVertices 7 = .ok (.i2l, 1) := by decide +kernel
theorem dL_addVertices_8 : decode cL_addVertices 8 = .ok (.lastore, 1) := by decide +kernel
theorem dL_addVertices_9 : decode cL_addVertices 9 = .ok (.goto 9, 3) := by decide +kernel
theorem dL_addVertices_12 : decode cL_addVertices 12 = .ok (.astore_n 3, 1) := by decide +kernel
theorem dL_addVertices_13 : decode cL_addVertices 13 = .ok (.iconst 1, 1) := by decide +kernel
theorem dL_addVertices_14 : decode cL_addVertices 14 = .ok (.ireturn, 1) := by decide +kernel
theorem dL_addVertices_15 : decode cL_addVertices 15 = .ok (.astore_n 3, 1) := by decide +kernel
theorem dL_addVertices_16 : decode cL_addVertices 16 = .ok (.iconst 2, 1) := by decide +kernel
theorem dL_addVertices_17 : decode cL_addVertices 17 = .ok (.ireturn, 1) := by decide +kernel
theorem dL_addVertices_18 : decode cL_addVertices 18 = .ok (.iconst 0, 1) := by decide +kernel
theorem dL_addVertices_19 : decode cL_addVertices 19 = .ok (.ireturn, 1) := by decide +kernel
set_option maxRecDepth 20000 in
theorem ggL_addEdge_X3_addEdge : GoodIn wsL_addEdge wsX3_addEdge := goodIn_ca (goodIn_ca (goodIn_r _ [7, 8, 9, 10, 11, 12, 13, 14, 15, 6, 16, 17, 18, 19, 20, 21, 22, 23, 24, 25, 26, 27, 28, 29, 30, 31, 32, 33, 34, 35, 36, 37, 38, 39, 40, 41, 42, 43, 44, 45, 46, 47, 48, 49, 50, 51, 52, 53, 54, 55, 56, 57, 58, 59, 60, 61, 62, 63, 64, 65, 66, 67, 68, 69, 70, 71, 72, 73, 74, 75, 76, 77, 78, 79, 80, 81, 82, 83, 84, 85, 86, 87, 88, 89, 90, 91, 92, 93, 94, 95, 96, 97, 98, 99, 100, 101, 102, 103, 104, 105, 106, 107, 108, 109, 110, 111, 112, 113, 114, 115, 116, 117, 118, 119, 120, 121, 122, 123, 124, 125, 126, 127, 128, 129, 130, 131, 132, 133, 134, 135, 136, 137] (by decide +kernel) (by decide +kernel)) (goodIn_sub (fun _ h => List.mem_cons_of_mem _ (List.mem_append_left _ (List.mem_append_right _ h))) (by decide +kernel))) (goodIn_sub (fun _ h => List.mem_cons_of_mem _ (List.mem_append_right _ h)) (by decide +kernel))
set_option maxRecDepth 20000 in
theorem gL_addEdge_X3_addEdge : GoodIn wsL_addEdge (wsV RL 21 RX3 yX3_addEdge wsX3_addEdge) := goodIn_app (goodIn_of _ (by decide +kernel)) ggL_addEdge_X3_addEdge
theorem dL_addEdge_0 : decode cL_addEdge 0 = .ok (.aload_n 3, 1) := by decide +kernel
theorem dL_addEdge_1 : decode cL_addEdge 1 = .ok (.iconst 0, 1) := by decide +kernel
theorem dL_addEdge_2 : decode cL_addEdge 2 = .ok (.aload_n 0, 1) := by decide +kernel
theorem dL_addEdge_3 : decode cL_addEdge 3 = .ok (.iload_n 1, 1) := by decide +kernel
theorem dL_addEdge_4 : decode cL_addEdge 4 = .ok (.iload_n 2, 1) := by decide +kernel
theorem dL_addEdge_5 : decode cL_addEdge 5 = .ok (.invokevirtual 21, 3) := by decide +kernel
theorem dL_addEdge_8 : decode cL_addEdge 8 = .ok (.i2l, 1) := by decide +kernel
theorem dL_addEdge_9 : decode cL_addEdge 9 = .ok (.lastore, 1) := by decide +kernel
theorem dL_addEdge_10 : decode cL_addEdge 10 = .ok (.goto 11, 3) := by decide +kernel
theorem dL_addEdge_13 : decode cL_addEdge 13 = .ok (.astore 4, 2) := by decide +kernel
theorem dL_addEdge_15 : decode cL_addEdge 15 = .ok (.iconst 1, 1) := by decide +kernel
theorem dL_addEdge_16 : decode cL_addEdge 16 = .ok (.ireturn, 1) := by decide +kernel
theorem dL_addEdge_17 : decode cL_addEdge 17 = .ok (.astore 4, 2) := by decide +kernel
theorem dL_addEdge_19 : decode cL_addEdge 19 = .ok (.iconst 2, 1) := by decide +kernel
theorem dL_addEdge_20 : decode cL_addEdge 20 = .ok (.ireturn, 1) := by decide +kernel
theorem dL_addEdge_21 : decode cL_addEdge 21 = .ok (.iconst 0, 1) := by decide +kernel
theorem dL_addEdge_22 : decode cL_addEdge 22 = .ok (.ireturn, 1) := by decide +kernel
set_option maxRecDepth 20000 in
theorem ggL_neighbours_X3_neighbours : GoodIn wsL_neighbours wsX3_neighbours := goodIn_ca (goodIn_r _ [6, 7, 8, 9, 10, 5, 11, 12, 13, 14, 15, 16, 17, 18, 19, 20, 21, 22, 23, 24, 25, 26, 27, 28, 29, 30, 31, 32, 33, 34, 35] (by decide +kernel) (by decide +kernel)) (goodIn_sub (fun _ h => List.mem_cons_of_mem _ (List.mem_append_right _ h)) (by decide +kernel))
set_option maxRecDepth 20000 in
theorem gL_neighbours_X3_neighbours : GoodIn wsL_neighbours (wsV RL 27 RX3 yX3_neighbours wsX3_neighbours) := goodIn_app (goodIn_of _ (by decide +kernel)) ggL_neighbours_X3_neighbours
theorem dL_neighbours_0 : decode cL_neighbours 0 = .ok (.aload_n 2, 1) := by decide +kernel
theorem dL_neighbours_1 : decode cL_neighbours 1 = .ok (.iconst 0, 1) := by decide +kernel
theorem dL_neighbours_2 : decode cL_neighbours 2 = .ok (.aload_n 0, 1) := by decide +kernel
theorem dL_neighbours_3 : decode cL_neighbours 3 = .ok (.iload_n 1, 1) := by decide +kernel
theorem dL_neighbours_4 : decode cL_neighbours 4 = .ok (.invokevirtual 27, 3) := by decide +kernel
theorem dL_neighbours_7 : decode cL_neighbours 7 = .ok (.lastore, 1) := by decide +kernel
theorem dL_neighbours_8 : decode cL_neighbours 8 = .ok (.goto 6, 3) := by decide +kernel
theorem dL_neighbours_11 : decode cL_neighbours 11 = .ok (.astore_n 3, 1) := by decide +kernel
theorem dL_neighbours_12 : decode cL_neighbours 12 = .ok (.iconst 1, 1) := by decide +kernel
theorem dL_neighbours_13 : decode cL_neighbours 13 = .ok (.ireturn, 1) := by decide +kernel
theorem dL_neighbours_14 : decode cL_neighbours 14 = .ok (.iconst 0, 1) := by decide +kernel
theorem dL_neighbours_15 : decode cL_neighbours 15 = .ok (.ireturn, 1) := by decide +kernel
set_option maxRecDepth 20000 in
theorem ggL_rank_X3_rank : GoodIn wsL_rank wsX3_rank := goodIn_ca (goodIn_ca (goodIn_r _ [7, 8, 9, 10, 11, 6, 12, 13, 14, 15, 16, 17, 18, 19, 20, 21, 22, 23, 24, 25, 26, 27, 28, 29, 30, 31, 32, 33, 34, 35, 36, 37, 38, 39, 40, 41, 42, 43, 44, 45, 46, 47, 48, 49, 50, 51, 52, 53, 54, 55] (by decide +kernel) (by decide +kernel)) (goodIn_sub (fun _ h => List.mem_cons_of_mem _ (List.mem_append_left _ (List.mem_append_right _ h))) (by decide +kernel))) (goodIn_sub (fun _ h => List.mem_cons_of_mem _ (List.mem_append_right _ h)) (by decide +kernel))
set_option maxRecDepth 20000 in
theorem gL_rank_X3_rank : GoodIn wsL_rank (wsV RL 31 RX3 yX3_rank wsX3_rank) := goodIn_app (goodIn_of _ (by decide +kernel)) ggL_rank_X3_rank
theorem dL_rank_0 : decode cL_rank 0 = .ok (.aload_n 2, 1) := by decide +kernel
theorem dL_rank_1 : decode cL_rank 1 = .ok (.iconst 0, 1) := by decide +kernel
theorem dL_rank_2 : decode cL_rank 2 = .ok (.aload_n 0, 1) := by decide +kernel
theorem dL_rank_3 : decode cL_rank 3 = .ok (.iload_n 1, 1) := by decide +kernel
theorem dL_rank_4 : decode cL_rank 4 = .ok (.invokevirtual 31, 3) := by decide +kernel
theorem dL_rank_7 : decode cL_rank 7 = .ok (.i2l, 1) := by decide +kernel
theorem dL_rank_8 : decode cL_rank 8 = .ok (.lastore, 1) := by decide +kernel
theorem dL_rank_9 : decode cL_rank 9 = .ok (.goto 9, 3) := by decide +kernel
theorem dL_rank_12 : decode cL_rank 12 = .ok (.astore_n 3, 1) := by decide +kernel
theorem dL_rank_13 : decode cL_rank 13 = .ok (.iconst 1, 1) := by decide +kernel
theorem dL_rank_14 : decode cL_rank 14 = .ok (.ireturn, 1) := by decide +kernel
theorem dL_rank_15 : decode cL_rank 15 = .ok (.astore_n 3, 1) := by decide +kernel
theorem dL_rank_16 : decode cL_rank 16 = .ok (.iconst 2, 1) := by decide +kernel
theorem dL_rank_17 : decode cL_rank 17 = .ok (.ireturn, 1) := by decide +kernel
theorem dL_rank_18 : decode cL_rank 18 = .ok (.iconst 0, 1) := by decide +kernel
theorem dL_rank_19 : decode cL_rank 19 = .ok (.ireturn, 1) := by decide +kernel
set_option maxRecDepth 20000 in
theorem ggL_labelSize_X3_labelSize : GoodIn wsL_labelSize wsX3_labelSize := goodIn_ca (goodIn_ca (goodIn_r _ [7, 8, 9, 10, 11, 6, 12, 13, 14, 15, 16, 17, 18, 19, 20, 21, 22, 23, 24, 25, 26, 27, 28, 29, 30, 31, 32, 33, 34, 35, 36, 37, 38, 39, 40, 41, 42, 43, 44, 45, 46, 47, 48, 49, 50, 51, 52, 53, 54, 55, 56, 57, 58, 59, 60, 61, 62] (by decide +kernel) (by decide +kernel)) (goodIn_sub (fun _ h => List.mem_cons_of_mem _ (List.mem_append_left _ (List.mem_append_right _ h))) (by decide +kernel))) (goodIn_sub (fun _ h => List.mem_cons_of_mem _ (List.mem_append_right _ h)) (by decide +kernel))
set_option maxRecDepth 20000 in
theorem gL_labelSize_X3_labelSize : GoodIn wsL_labelSize (wsV RL 34 RX3 yX3_labelSize wsX3_labelSize) := goodIn_app (goodIn_of _ (by decide +kernel)) ggL_labelSize_X3_labelSize
theorem dL_labelSize_0 : decode cL_labelSize 0 = .ok (.aload_n 2, 1) := by decide +kernel
theorem dL_labelSize_1 : decode cL_labelSize 1 = .ok (.iconst 0, 1) := by decide +kernel
theorem dL_labelSize_2 : decode cL_labelSize 2 = .ok (.aload_n 0, 1) := by decide +kernel
theorem dL_labelSize_3 : decode cL_labelSize 3 = .ok (.iload_n 1, 1) := by decide +kernel
theorem dL_labelSize_4 : decode cL_labelSize 4 = .ok (.invokevirtual 34, 3) := by decide +kernel
theorem dL_labelSize_7 : decode cL_labelSize 7 = .ok (.i2l, 1) := by decide +kernel
theorem dL_labelSize_8 : decode cL_labelSize 8 = .ok (.lastore, 1) := by decide +kernel
theorem dL_labelSize_9 : decode cL_labelSize 9 = .ok (.goto 9, 3) := by decide +kernel
theorem dL_labelSize_12 : decode cL_labelSize 12 = .ok (.astore_n 3, 1) := by decide +kernel
theorem dL_labelSize_13 : decode cL_labelSize 13 = .ok (.iconst 1, 1) := by decide +kernel
theorem dL_labelSize_14 : decode cL_labelSize 14 = .ok (.ireturn, 1) := by decide +kernel
theorem dL_labelSize_15 : decode cL_labelSize 15 = .ok (.astore_n 3, 1) := by decide +kernel
theorem dL_labelSize_16 : decode cL_labelSize 16 = .ok (.iconst 2, 1) := by decide +kernel
theorem dL_labelSize_17 : decode cL_labelSize 17 = .ok (.ireturn, 1) := by decide +kernel
theorem dL_labelSize_18 : decode cL_labelSize 18 = .ok (.iconst 0, 1) := by decide +kernel
theorem dL_labelSize_19 : decode cL_labelSize 19 = .ok (.ireturn, 1) := by decide +kernel
set_option maxRecDepth 20000 in
theorem ggL_entryHub_X3_entryHub : GoodIn wsL_entryHub wsX3_entryHub := goodIn_ca (goodIn_ca (goodIn_ca (goodIn_r _ [8, 9, 10, 11, 12, 7, 13, 14, 15, 16, 17, 18, 19, 20, 21, 22, 23, 24, 25, 26, 27, 28, 29, 30, 31, 32, 33, 34, 35, 36, 37, 38, 39, 40, 41, 42, 43, 44, 45, 46, 47, 48, 49, 50, 51, 52, 53, 54, 55, 56, 57, 58, 59, 60, 61, 62, 63, 64, 65, 66, 67, 68, 69, 70, 71, 72, 73, 74, 75, 76, 77, 78, 79, 80] (by decide +kernel) (by decide +kernel)) (goodIn_sub (fun _ h => List.mem_cons_of_mem _ (List.mem_append_left _ (List.mem_append_left _ (List.mem_append_right _ h)))) (by decide +kernel))) (goodIn_sub (fun _ h => List.mem_cons_of_mem _ (List.mem_append_left _ (List.mem_append_right _ h))) (by decide +kernel))) (goodIn_sub (fun _ h => List.mem_cons_of_mem _ (List.mem_append_right _ h)) (by decide +kernel))
set_option maxRecDepth 20000 in
theorem gL_entryHub_X3_entryHub : GoodIn wsL_entryHub (wsV RL 37 RX3 yX3_entryHub wsX3_entryHub) := goodIn_app (goodIn_of _ (by decide +kernel)) ggL_entryHub_X3_entryHub
theorem dL_entryHub_0 : decode cL_entryHub 0 = .ok (.aload_n 3, 1) := by decide +kernel
theorem dL_entryHub_1 : decode cL_entryHub 1 = .ok (.iconst 0, 1) := by decide +kernel
theorem dL_entryHub_2 : decode cL_entryHub 2 = .ok (.aload_n 0, 1) := by decide +kernel
theorem dL_entryHub_3 : decode cL_entryHub 3 = .ok (.iload_n 1, 1) := by decide +kernel
theorem dL_entryHub_4 : decode cL_entryHub 4 = .ok (.iload_n 2, 1) := by decide +kernel
theorem dL_entryHub_5 : decode cL_entryHub 5 = .ok (.invokevirtual 37, 3) := by decide +kernel
theorem dL_entryHub_8 : decode cL_entryHub 8 = .ok (.i2l, 1) := by decide +kernel
theorem dL_entryHub_9 : decode cL_entryHub 9 = .ok (.lastore, 1) := by decide +kernel
theorem dL_entryHub_10 : decode cL_entryHub 10 = .ok (.goto 15, 3) := by decide +kernel
theorem dL_entryHub_13 : decode cL_entryHub 13 = .ok (.astore 4, 2) := by decide +kernel
theorem dL_entryHub_15 : decode cL_entryHub 15 = .ok (.iconst 1, 1) := by decide +kernel
theorem dL_entryHub_16 : decode cL_entryHub 16 = .ok (.ireturn, 1) := by decide +kernel
theorem dL_entryHub_17 : decode cL_entryHub 17 = .ok (.astore 4, 2) := by decide +kernel
theorem dL_entryHub_19 : decode cL_entryHub 19 = .ok (.iconst 2, 1) := by decide +kernel
theorem dL_entryHub_20 : decode cL_entryHub 20 = .ok (.ireturn, 1) := by decide +kernel
theorem dL_entryHub_21 : decode cL_entryHub 21 = .ok (.astore 4, 2) := by decide +kernel
theorem dL_entryHub_23 : decode cL_entryHub 23 = .ok (.iconst 3, 1) := by decide +kernel
theorem dL_entryHub_24 : decode cL_entryHub 24 = .ok (.ireturn, 1) := by decide +kernel
theorem dL_entryHub_25 : decode cL_entryHub 25 = .ok (.iconst 0, 1) := by decide +kernel
theorem dL_entryHub_26 : decode cL_entryHub 26 = .ok (.ireturn, 1) := by decide +kernel
set_option maxRecDepth 20000 in
theorem ggL_entryDistance_X3_entryDistance : GoodIn wsL_entryDistance wsX3_entryDistance := goodIn_ca (goodIn_ca (goodIn_ca (goodIn_r _ [8, 9, 10, 11, 12, 7, 13, 14, 15, 16, 17, 18, 19, 20, 21, 22, 23, 24, 25, 26, 27, 28, 29, 30, 31, 32, 33, 34, 35, 36, 37, 38, 39, 40, 41, 42, 43, 44, 45, 46, 47, 48, 49, 50, 51, 52, 53, 54, 55, 56, 57, 58, 59, 60, 61, 62, 63, 64, 65, 66, 67, 68, 69, 70, 71, 72, 73, 74, 75, 76, 77, 78, 79, 80, 81, 82, 83, 84] (by decide +kernel) (by decide +kernel)) (goodIn_sub (fun _ h => List.mem_cons_of_mem _ (List.mem_append_left _ (List.mem_append_left _ (List.mem_append_right _ h)))) (by decide +kernel))) (goodIn_sub (fun _ h => List.mem_cons_of_mem _ (List.mem_append_left _ (List.mem_append_right _ h))) (by decide +kernel))) (goodIn_sub (fun _ h => List.mem_cons_of_mem _ (List.mem_append_right _ h)) (by decide +kernel))
set_option maxRecDepth 20000 in
theorem gL_entryDistance_X3_entryDistance : GoodIn wsL_entryDistance (wsV RL 40 RX3 yX3_entryDistance wsX3_entryDistance) := goodIn_app (goodIn_of _ (by decide +kernel)) ggL_entryDistance_X3_entryDistance
theorem dL_entryDistance_0 : decode cL_entryDistance 0 = .ok (.aload_n 3, 1) := by decide +kernel
theorem dL_entryDistance_1 : decode cL_entryDistance 1 = .ok (.iconst 0, 1) := by decide +kernel
theorem dL_entryDistance_2 : decode cL_entryDistance 2 = .ok (.aload_n 0, 1) := by decide +kernel
theorem dL_entryDistance_3 : decode cL_entryDistance 3 = .ok (.iload_n 1, 1) := by decide +kernel
theorem dL_entryDistance_4 : decode cL_entryDistance 4 = .ok (.iload_n 2, 1) := by decide +kernel
theorem dL_entryDistance_5 : decode cL_entryDistance 5 = .ok (.invokevirtual 40, 3) := by decide +kernel
theorem dL_entryDistance_8 : decode cL_entryDistance 8 = .ok (.i2l, 1) := by decide +kernel
theorem dL_entryDistance_9 : decode cL_entryDistance 9 = .ok (.lastore, 1) := by decide +kernel
theorem dL_entryDistance_10 : decode cL_entryDistance 10 = .ok (.goto 15, 3) := by decide +kernel
theorem dL_entryDistance_13 : decode cL_entryDistance 13 = .ok (.astore 4, 2) := by decide +kernel
theorem dL_entryDistance_15 : decode cL_entryDistance 15 = .ok (.iconst 1, 1) := by decide +kernel
theorem dL_entryDistance_16 : decode cL_entryDistance 16 = .ok (.ireturn, 1) := by decide +kernel
theorem dL_entryDistance_17 : decode cL_entryDistance 17 = .ok (.astore 4, 2) := by decide +kernel
theorem dL_entryDistance_19 : decode cL_entryDistance 19 = .ok (.iconst 2, 1) := by decide +kernel
theorem dL_entryDistance_20 : decode cL_entryDistance 20 = .ok (.ireturn, 1) := by decide +kernel
theorem dL_entryDistance_21 : decode cL_entryDistance 21 = .ok (.astore 4, 2) := by decide +kernel
theorem dL_entryDistance_23 : decode cL_entryDistance 23 = .ok (.iconst 3, 1) := by decide +kernel
theorem dL_entryDistance_24 : decode cL_entryDistance 24 = .ok (.ireturn, 1) := by decide +kernel
theorem dL_entryDistance_25 : decode cL_entryDistance 25 = .ok (.iconst 0, 1) := by decide +kernel
theorem dL_entryDistance_26 : decode cL_entryDistance 26 = .ok (.ireturn, 1) := by decide +kernel
set_option maxRecDepth 20000 in
theorem ggL_entryParent_X3_entryParent : GoodIn wsL_entryParent wsX3_entryParent := goodIn_ca (goodIn_ca (goodIn_ca (goodIn_r _ [8, 9, 10, 11, 12, 7, 13, 14, 15, 16, 17, 18, 19, 20, 21, 22, 23, 24, 25, 26, 27, 28, 29, 30, 31, 32, 33, 34, 35, 36, 37, 38, 39, 40, 41, 42, 43, 44, 45, 46, 47, 48, 49, 50, 51, 52, 53, 54, 55, 56, 57, 58, 59, 60, 61, 62, 63, 64, 65, 66, 67, 68, 69, 70, 71, 72, 73, 74, 75, 76, 77, 78, 79, 80, 81, 82, 83, 84] (by decide +kernel) (by decide +kernel)) (goodIn_sub (fun _ h => List.mem_cons_of_mem _ (List.mem_append_left _ (List.mem_append_left _ (List.mem_append_right _ h)))) (by decide +kernel))) (goodIn_sub (fun _ h => List.mem_cons_of_mem _ (List.mem_append_left _ (List.mem_append_right _ h))) (by decide +kernel))) (goodIn_sub (fun _ h => List.mem_cons_of_mem _ (List.mem_append_right _ h)) (by decide +kernel))
set_option maxRecDepth 20000 in
theorem gL_entryParent_X3_entryParent : GoodIn wsL_entryParent (wsV RL 43 RX3 yX3_entryParent wsX3_entryParent) := goodIn_app (goodIn_of _ (by decide +kernel)) ggL_entryParent_X3_entryParent
theorem dL_entryParent_0 : decode cL_entryParent 0 = .ok (.aload_n 3, 1) := by decide +kernel
theorem dL_entryParent_1 : decode cL_entryParent 1 = .ok (.iconst 0, 1) := by decide +kernel
theorem dL_entryParent_2 : decode cL_entryParent 2 = .ok (.aload_n 0, 1) := by decide +kernel
theorem dL_entryParent_3 : decode cL_entryParent 3 = .ok (.iload_n 1, 1) := by decide +kernel
theorem dL_entryParent_4 : decode cL_entryParent 4 = .ok (.iload_n 2, 1) := by decide +kernel
theorem dL_entryParent_5 : decode cL_entryParent 5 = .ok (.invokevirtual 43, 3) := by decide +kernel
theorem dL_entryParent_8 : decode cL_entryParent 8 = .ok (.i2l, 1) := by decide +kernel
theorem dL_entryParent_9 : decode cL_entryParent 9 = .ok (.lastore, 1) := by decide +kernel
theorem dL_entryParent_10 : decode cL_entryParent 10 = .ok (.goto 15, 3) := by decide +kernel
theorem dL_entryParent_13 : decode cL_entryParent 13 = .ok (.astore 4, 2) := by decide +kernel
theorem dL_entryParent_15 : decode cL_entryParent 15 = .ok (.iconst 1, 1) := by decide +kernel
theorem dL_entryParent_16 : decode cL_entryParent 16 = .ok (.ireturn, 1) := by decide +kernel
theorem dL_entryParent_17 : decode cL_entryParent 17 = .ok (.astore 4, 2) := by decide +kernel
theorem dL_entryParent_19 : decode cL_entryParent 19 = .ok (.iconst 2, 1) := by decide +kernel
theorem dL_entryParent_20 : decode cL_entryParent 20 = .ok (.ireturn, 1) := by decide +kernel
theorem dL_entryParent_21 : decode cL_entryParent 21 = .ok (.astore 4, 2) := by decide +kernel
theorem dL_entryParent_23 : decode cL_entryParent 23 = .ok (.iconst 3, 1) := by decide +kernel
theorem dL_entryParent_24 : decode cL_entryParent 24 = .ok (.ireturn, 1) := by decide +kernel
theorem dL_entryParent_25 : decode cL_entryParent 25 = .ok (.iconst 0, 1) := by decide +kernel
theorem dL_entryParent_26 : decode cL_entryParent 26 = .ok (.ireturn, 1) := by decide +kernel
set_option maxRecDepth 20000 in
theorem ggL_distance_X3_distance : GoodIn wsL_distance wsX3_distance := goodIn_ca (goodIn_ca (goodIn_r _ [7, 8, 9, 10, 11, 6, 12, 13, 14, 15, 16, 17, 18, 19, 20, 21, 22, 23, 24, 25, 26, 27, 28, 29, 30, 31, 32, 33, 34, 35, 36, 37, 38, 39, 40, 41, 42, 43, 44, 45, 46, 47, 48, 49, 50, 51, 52, 53, 54, 55, 56, 57, 58, 59, 60, 61, 62, 63, 64, 65, 66] (by decide +kernel) (by decide +kernel)) (goodIn_sub (fun _ h => List.mem_cons_of_mem _ (List.mem_append_left _ (List.mem_append_right _ h))) (by decide +kernel))) (goodIn_sub (fun _ h => List.mem_cons_of_mem _ (List.mem_append_right _ h)) (by decide +kernel))
set_option maxRecDepth 20000 in
theorem gL_distance_X3_distance : GoodIn wsL_distance (wsV RL 46 RX3 yX3_distance wsX3_distance) := goodIn_app (goodIn_of _ (by decide +kernel)) ggL_distance_X3_distance
theorem dL_distance_0 : decode cL_distance 0 = .ok (.aload_n 3, 1) := by decide +kernel
theorem dL_distance_1 : decode cL_distance 1 = .ok (.iconst 0, 1) := by decide +kernel
theorem dL_distance_2 : decode cL_distance 2 = .ok (.aload_n 0, 1) := by decide +kernel
theorem dL_distance_3 : decode cL_distance 3 = .ok (.iload_n 1, 1) := by decide +kernel
theorem dL_distance_4 : decode cL_distance 4 = .ok (.iload_n 2, 1) := by decide +kernel
theorem dL_distance_5 : decode cL_distance 5 = .ok (.invokevirtual 46, 3) := by decide +kernel
theorem dL_distance_8 : decode cL_distance 8 = .ok (.i2l, 1) := by decide +kernel
theorem dL_distance_9 : decode cL_distance 9 = .ok (.lastore, 1) := by decide +kernel
theorem dL_distance_10 : decode cL_distance 10 = .ok (.goto 11, 3) := by decide +kernel
theorem dL_distance_13 : decode cL_distance 13 = .ok (.astore 4, 2) := by decide +kernel
theorem dL_distance_15 : decode cL_distance 15 = .ok (.iconst 1, 1) := by decide +kernel
theorem dL_distance_16 : decode cL_distance 16 = .ok (.ireturn, 1) := by decide +kernel
theorem dL_distance_17 : decode cL_distance 17 = .ok (.astore 4, 2) := by decide +kernel
theorem dL_distance_19 : decode cL_distance 19 = .ok (.iconst 2, 1) := by decide +kernel
theorem dL_distance_20 : decode cL_distance 20 = .ok (.ireturn, 1) := by decide +kernel
theorem dL_distance_21 : decode cL_distance 21 = .ok (.iconst 0, 1) := by decide +kernel
theorem dL_distance_22 : decode cL_distance 22 = .ok (.ireturn, 1) := by decide +kernel
set_option maxRecDepth 20000 in
theorem ggL_hub_X3_hub : GoodIn wsL_hub wsX3_hub := goodIn_ca (goodIn_ca (goodIn_r _ [7, 8, 9, 10, 11, 6, 12, 13, 14, 15, 16, 17, 18, 19, 20, 21, 22, 23, 24, 25, 26, 27, 28, 29, 30, 31, 32, 33, 34, 35, 36, 37, 38, 39, 40, 41, 42, 43, 44, 45, 46, 47, 48, 49, 50, 51, 52, 53, 54, 55, 56, 57, 58, 59, 60, 61, 62, 63, 64, 65, 66, 67] (by decide +kernel) (by decide +kernel)) (goodIn_sub (fun _ h => List.mem_cons_of_mem _ (List.mem_append_left _ (List.mem_append_right _ h))) (by decide +kernel))) (goodIn_sub (fun _ h => List.mem_cons_of_mem _ (List.mem_append_right _ h)) (by decide +kernel))
set_option maxRecDepth 20000 in
theorem gL_hub_X3_hub : GoodIn wsL_hub (wsV RL 49 RX3 yX3_hub wsX3_hub) := goodIn_app (goodIn_of _ (by decide +kernel)) ggL_hub_X3_hub
theorem dL_hub_0 : decode cL_hub 0 = .ok (.aload_n 3, 1) := by decide +kernel
theorem dL_hub_1 : decode cL_hub 1 = .ok (.iconst 0, 1) := by decide +kernel
theorem dL_hub_2 : decode cL_hub 2 = .ok (.aload_n 0, 1) := by decide +kernel
theorem dL_hub_3 : decode cL_hub 3 = .ok (.iload_n 1, 1) := by decide +kernel
theorem dL_hub_4 : decode cL_hub 4 = .ok (.iload_n 2, 1) := by decide +kernel
theorem dL_hub_5 : decode cL_hub 5 = .ok (.invokevirtual 49, 3) := by decide +kernel
theorem dL_hub_8 : decode cL_hub 8 = .ok (.i2l, 1) := by decide +kernel
theorem dL_hub_9 : decode cL_hub 9 = .ok (.lastore, 1) := by decide +kernel
theorem dL_hub_10 : decode cL_hub 10 = .ok (.goto 11, 3) := by decide +kernel
theorem dL_hub_13 : decode cL_hub 13 = .ok (.astore 4, 2) := by decide +kernel
theorem dL_hub_15 : decode cL_hub 15 = .ok (.iconst 1, 1) := by decide +kernel
theorem dL_hub_16 : decode cL_hub 16 = .ok (.ireturn, 1) := by decide +kernel
theorem dL_hub_17 : decode cL_hub 17 = .ok (.astore 4, 2) := by decide +kernel
theorem dL_hub_19 : decode cL_hub 19 = .ok (.iconst 2, 1) := by decide +kernel
theorem dL_hub_20 : decode cL_hub 20 = .ok (.ireturn, 1) := by decide +kernel
theorem dL_hub_21 : decode cL_hub 21 = .ok (.iconst 0, 1) := by decide +kernel
theorem dL_hub_22 : decode cL_hub 22 = .ok (.ireturn, 1) := by decide +kernel
set_option maxRecDepth 20000 in
theorem ggL_pathVertex_X3_pathVertex : GoodIn wsL_pathVertex wsX3_pathVertex := goodIn_ca (goodIn_ca (goodIn_ca (goodIn_r _ [8, 9, 10, 11, 12, 13, 14, 7, 15, 16, 17, 18, 19, 20, 21, 22, 23, 24, 25, 26, 27, 28, 29, 30, 31, 32, 33, 34, 35, 36, 37, 38, 39, 40, 41, 42, 43, 44, 45, 46, 47, 48, 49, 50, 51, 52, 53, 54, 55, 56, 57, 58, 59, 60, 61, 62, 63, 64, 65, 66, 67, 68, 69, 70, 71, 72, 73, 74, 75, 76, 77, 78, 79, 80, 81, 82, 83, 84, 85, 86, 87, 88, 89, 90, 91] (by decide +kernel) (by decide +kernel)) (goodIn_sub (fun _ h => List.mem_cons_of_mem _ (List.mem_append_left _ (List.mem_append_left _ (List.mem_append_right _ h)))) (by decide +kernel))) (goodIn_sub (fun _ h => List.mem_cons_of_mem _ (List.mem_append_left _ (List.mem_append_right _ h))) (by decide +kernel))) (goodIn_sub (fun _ h => List.mem_cons_of_mem _ (List.mem_append_right _ h)) (by decide +kernel))
set_option maxRecDepth 20000 in
theorem gL_pathVertex_X3_pathVertex : GoodIn wsL_pathVertex (wsV RL 52 RX3 yX3_pathVertex wsX3_pathVertex) := goodIn_app (goodIn_of _ (by decide +kernel)) ggL_pathVertex_X3_pathVertex
theorem dL_pathVertex_0 : decode cL_pathVertex 0 = .ok (.aload 4, 2) := by decide +kernel
theorem dL_pathVertex_2 : decode cL_pathVertex 2 = .ok (.iconst 0, 1) := by decide +kernel
theorem dL_pathVertex_3 : decode cL_pathVertex 3 = .ok (.aload_n 0, 1) := by decide +kernel
theorem dL_pathVertex_4 : decode cL_pathVertex 4 = .ok (.iload_n 1, 1) := by decide +kernel
theorem dL_pathVertex_5 : decode cL_pathVertex 5 = .ok (.iload_n 2, 1) := by decide +kernel
theorem dL_pathVertex_6 : decode cL_pathVertex 6 = .ok (.iload_n 3, 1) := by decide +kernel
theorem dL_pathVertex_7 : decode cL_pathVertex 7 = .ok (.invokevirtual 52, 3) := by decide +kernel
theorem dL_pathVertex_10 : decode cL_pathVertex 10 = .ok (.i2l, 1) := by decide +kernel
theorem dL_pathVertex_11 : decode cL_pathVertex 11 = .ok (.lastore, 1) := by decide +kernel
theorem dL_pathVertex_12 : decode cL_pathVertex 12 = .ok (.goto 15, 3) := by decide +kernel
theorem dL_pathVertex_15 : decode cL_pathVertex 15 = .ok (.astore 5, 2) := by decide +kernel
theorem dL_pathVertex_17 : decode cL_pathVertex 17 = .ok (.iconst 1, 1) := by decide +kernel
theorem dL_pathVertex_18 : decode cL_pathVertex 18 = .ok (.ireturn, 1) := by decide +kernel
theorem dL_pathVertex_19 : decode cL_pathVertex 19 = .ok (.astore 5, 2) := by decide +kernel
theorem dL_pathVertex_21 : decode cL_pathVertex 21 = .ok (.iconst 2, 1) := by decide +kernel
theorem dL_pathVertex_22 : decode cL_pathVertex 22 = .ok (.ireturn, 1) := by decide +kernel
theorem dL_pathVertex_23 : decode cL_pathVertex 23 = .ok (.astore 5, 2) := by decide +kernel
theorem dL_pathVertex_25 : decode cL_pathVertex 25 = .ok (.iconst 3, 1) := by decide +kernel
theorem dL_pathVertex_26 : decode cL_pathVertex 26 = .ok (.ireturn, 1) := by decide +kernel
theorem dL_pathVertex_27 : decode cL_pathVertex 27 = .ok (.iconst 0, 1) := by decide +kernel
theorem dL_pathVertex_28 : decode cL_pathVertex 28 = .ok (.ireturn, 1) := by decide +kernel
set_option maxRecDepth 20000 in
theorem ggL_within_X3_within : GoodIn wsL_within wsX3_within := goodIn_ca (goodIn_ca (goodIn_ca (goodIn_r _ [8, 9, 10, 11, 12, 13, 14, 15, 7, 16, 17, 18, 19, 20, 21, 22, 23, 24, 25, 26, 27, 28, 29, 30, 31, 32, 33, 34, 35, 36, 37, 38, 39, 40, 41, 42, 43, 44, 45, 46, 47, 48, 49, 50, 51, 52, 53, 54, 55, 56, 57, 58, 59, 60, 61, 62, 63, 64, 65, 66, 67, 68, 69, 70, 71, 72, 73, 74, 75, 76, 77] (by decide +kernel) (by decide +kernel)) (goodIn_sub (fun _ h => List.mem_cons_of_mem _ (List.mem_append_left _ (List.mem_append_left _ (List.mem_append_right _ h)))) (by decide +kernel))) (goodIn_sub (fun _ h => List.mem_cons_of_mem _ (List.mem_append_left _ (List.mem_append_right _ h))) (by decide +kernel))) (goodIn_sub (fun _ h => List.mem_cons_of_mem _ (List.mem_append_right _ h)) (by decide +kernel))
set_option maxRecDepth 20000 in
theorem gL_within_X3_within : GoodIn wsL_within (wsV RL 56 RX3 yX3_within wsX3_within) := goodIn_app (goodIn_of _ (by decide +kernel)) ggL_within_X3_within
theorem dL_within_0 : decode cL_within 0 = .ok (.aload_n 3, 1) := by decide +kernel
theorem dL_within_1 : decode cL_within 1 = .ok (.iconst 0, 1) := by decide +kernel
theorem dL_within_2 : decode cL_within 2 = .ok (.aload_n 0, 1) := by decide +kernel
theorem dL_within_3 : decode cL_within 3 = .ok (.iload_n 1, 1) := by decide +kernel
theorem dL_within_4 : decode cL_within 4 = .ok (.iload_n 2, 1) := by decide +kernel
theorem dL_within_5 : decode cL_within 5 = .ok (.invokevirtual 56, 3) := by decide +kernel
theorem dL_within_8 : decode cL_within 8 = .ok (.lastore, 1) := by decide +kernel
theorem dL_within_9 : decode cL_within 9 = .ok (.goto 15, 3) := by decide +kernel
theorem dL_within_12 : decode cL_within 12 = .ok (.astore 4, 2) := by decide +kernel
theorem dL_within_14 : decode cL_within 14 = .ok (.iconst 1, 1) := by decide +kernel
theorem dL_within_15 : decode cL_within 15 = .ok (.ireturn, 1) := by decide +kernel
theorem dL_within_16 : decode cL_within 16 = .ok (.astore 4, 2) := by decide +kernel
theorem dL_within_18 : decode cL_within 18 = .ok (.iconst 2, 1) := by decide +kernel
theorem dL_within_19 : decode cL_within 19 = .ok (.ireturn, 1) := by decide +kernel
theorem dL_within_20 : decode cL_within 20 = .ok (.astore 4, 2) := by decide +kernel
theorem dL_within_22 : decode cL_within 22 = .ok (.iconst 3, 1) := by decide +kernel
theorem dL_within_23 : decode cL_within 23 = .ok (.ireturn, 1) := by decide +kernel
theorem dL_within_24 : decode cL_within 24 = .ok (.iconst 0, 1) := by decide +kernel
theorem dL_within_25 : decode cL_within 25 = .ok (.ireturn, 1) := by decide +kernel
set_option maxRecDepth 20000 in
theorem ggL_eccentricity_X3_eccentricity : GoodIn wsL_eccentricity wsX3_eccentricity := goodIn_ca (goodIn_ca (goodIn_r _ [7, 8, 9, 10, 11, 12, 13, 14, 15, 16, 6, 17, 18, 19, 20, 21, 22, 23, 24, 25, 26, 27, 28, 29, 30, 31, 32, 33, 34, 35, 36, 37, 38, 39, 40, 41, 42, 43, 44, 45, 46, 47, 48, 49, 50, 51, 52, 53, 54, 55, 56, 57, 58, 59, 60, 61, 62, 63, 64, 65, 66, 67, 68, 69, 70, 71, 72, 73, 74, 75, 76, 77, 78] (by decide +kernel) (by decide +kernel)) (goodIn_sub (fun _ h => List.mem_cons_of_mem _ (List.mem_append_left _ (List.mem_append_right _ h))) (by decide +kernel))) (goodIn_sub (fun _ h => List.mem_cons_of_mem _ (List.mem_append_right _ h)) (by decide +kernel))
set_option maxRecDepth 20000 in
theorem gL_eccentricity_X3_eccentricity : GoodIn wsL_eccentricity (wsV RL 60 RX3 yX3_eccentricity wsX3_eccentricity) := goodIn_app (goodIn_of _ (by decide +kernel)) ggL_eccentricity_X3_eccentricity
theorem dL_eccentricity_0 : decode cL_eccentricity 0 = .ok (.aload_n 2, 1) := by decide +kernel
theorem dL_eccentricity_1 : decode cL_eccentricity 1 = .ok (.iconst 0, 1) := by decide +kernel
theorem dL_eccentricity_2 : decode cL_eccentricity 2 = .ok (.aload_n 0, 1) := by decide +kernel
theorem dL_eccentricity_3 : decode cL_eccentricity 3 = .ok (.iload_n 1, 1) := by decide +kernel
theorem dL_eccentricity_4 : decode cL_eccentricity 4 = .ok (.invokevirtual 60, 3) := by decide +kernel
theorem dL_eccentricity_7 : decode cL_eccentricity 7 = .ok (.i2l, 1) := by decide +kernel
theorem dL_eccentricity_8 : decode cL_eccentricity 8 = .ok (.lastore, 1) := by decide +kernel
theorem dL_eccentricity_9 : decode cL_eccentricity 9 = .ok (.goto 9, 3) := by decide +kernel
theorem dL_eccentricity_12 : decode cL_eccentricity 12 = .ok (.astore_n 3, 1) := by decide +kernel
theorem dL_eccentricity_13 : decode cL_eccentricity 13 = .ok (.iconst 1, 1) := by decide +kernel
theorem dL_eccentricity_14 : decode cL_eccentricity 14 = .ok (.ireturn, 1) := by decide +kernel
theorem dL_eccentricity_15 : decode cL_eccentricity 15 = .ok (.astore_n 3, 1) := by decide +kernel
theorem dL_eccentricity_16 : decode cL_eccentricity 16 = .ok (.iconst 2, 1) := by decide +kernel
theorem dL_eccentricity_17 : decode cL_eccentricity 17 = .ok (.ireturn, 1) := by decide +kernel
theorem dL_eccentricity_18 : decode cL_eccentricity 18 = .ok (.iconst 0, 1) := by decide +kernel
theorem dL_eccentricity_19 : decode cL_eccentricity 19 = .ok (.ireturn, 1) := by decide +kernel
