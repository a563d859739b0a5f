theorem dL_dice_0 : decode cL_dice 0 = .ok (.iload_n 1, 1) := by decide +kernel
theorem dL_dice_1 : decode cL_dice 1 = .ok (.aload_n 0, 1) := by decide +kernel
theorem dL_dice_2 : decode cL_dice 2 = .ok (.arraylength, 1) := by decide +kernel
theorem dL_dice_3 : decode cL_dice 3 = .ok (.if_icmp .ge 9, 3) := by decide +kernel
theorem dL_dice_6 : decode cL_dice 6 = .ok (.aload_n 0, 1) := by decide +kernel
theorem dL_dice_7 : decode cL_dice 7 = .ok (.iload_n 1, 1) := by decide +kernel
theorem dL_dice_8 : decode cL_dice 8 = .ok (.iaload, 1) := by decide +kernel
theorem dL_dice_9 : decode cL_dice 9 = .ok (.goto 22, 3) := by decide +kernel
theorem dL_dice_12 : decode cL_dice 12 = .ok (.ldc 7, 2) := by decide +kernel
theorem dL_dice_14 : decode cL_dice 14 = .ok (.iload_n 1, 1) := by decide +kernel
theorem dL_dice_15 : decode cL_dice 15 = .ok (.bipush 29, 2) := by decide +kernel
theorem dL_dice_17 : decode cL_dice 17 = .ok (.iadd, 1) := by decide +kernel
theorem dL_dice_18 : decode cL_dice 18 = .ok (.imul, 1) := by decide +kernel
theorem dL_dice_19 : decode cL_dice 19 = .ok (.sipush 469, 3) := by decide +kernel
theorem dL_dice_22 : decode cL_dice 22 = .ok (.iload_n 1, 1) := by decide +kernel
theorem dL_dice_23 : decode cL_dice 23 = .ok (.imul, 1) := by decide +kernel
theorem dL_dice_24 : decode cL_dice 24 = .ok (.iload_n 1, 1) := by decide +kernel
theorem dL_dice_25 : decode cL_dice 25 = .ok (.imul, 1) := by decide +kernel
theorem dL_dice_26 : decode cL_dice 26 = .ok (.iadd, 1) := by decide +kernel
theorem dL_dice_27 : decode cL_dice 27 = .ok (.sipush 20011, 3) := by decide +kernel
theorem dL_dice_30 : decode cL_dice 30 = .ok (.iadd, 1) := by decide +kernel
theorem dL_dice_31 : decode cL_dice 31 = .ok (.ldc 8, 2) := by decide +kernel
theorem dL_dice_33 : decode cL_dice 33 = .ok (.iand, 1) := by decide +kernel
theorem dL_dice_34 : decode cL_dice 34 = .ok (.ireturn, 1) := by decide +kernel
set_option maxRecDepth 20000 in
theorem ggL_addVertex_X3_addVertex : GoodIn wsL_addVertex wsX3_addVertex := goodIn_ca (goodIn_r _ [6, 7, 8, 9, 5, 10, 11, 12, 13, 14, 15, 16, 17, 18, 19, 20, 21, 22, 23, 24, 25, 26, 27, 28, 29, 30, 31, 32, 33, 34, 35, 36, 37, 38, 39, 40, 41, 42, 43, 44, 45, 46, 47, 48, 49, 50, 51, 52, 53, 54, 55, 56, 57, 58, 59, 60, 61, 62, 63, 64, 65] (by decide +kernel) (by decide +kernel)) (goodIn_sub (fun _ h => List.mem_cons_of_mem _ (List.mem_append_right _ h)) (by decide +kernel))
set_option maxRecDepth 20000 in
theorem gL_addVertex_X3_addVertex : GoodIn wsL_addVertex (wsV RL 9 RX3 yX3_addVertex wsX3_addVertex) := goodIn_app (goodIn_of _ (by decide +kernel)) ggL_addVertex_X3_addVertex
theorem dL_addVertex_0 : decode cL_addVertex 0 = .ok (.aload_n 0, 1) := by decide +kernel
theorem dL_addVertex_1 : decode cL_addVertex 1 = .ok (.invokevirtual 9, 3) := by decide +kernel
theorem dL_addVertex_4 : decode cL_addVertex 4 = .ok (.ireturn, 1) := by decide +kernel
theorem dL_addVertex_5 : decode cL_addVertex 5 = .ok (.astore_n 1, 1) := by decide +kernel
theorem dL_addVertex_6 : decode cL_addVertex 6 = .ok (.bipush (-5), 2) := by decide +kernel
theorem dL_addVertex_8 : decode cL_addVertex 8 = .ok (.ireturn, 1) := by decide +kernel
set_option maxRecDepth 20000 in
theorem ggL_addVertices_X3_addVertices : GoodIn wsL_addVertices wsX3_addVertices := goodIn_ca (goodIn_ca (goodIn_r _ [7, 8, 9, 10, 11, 12, 13, 6, 14, 15, 16, 17, 18, 19, 20, 21, 22, 23, 24, 25, 26, 27, 28, 29, 30, 31, 32, 33, 34, 35, 36, 37, 38, 39, 40, 41, 42, 43, 44, 45, 46, 47, 48, 49, 50, 51, 52, 53, 54, 55, 56, 57, 58, 59, 60, 61, 62, 63, 64, 65, 66, 67, 68] (by decide +kernel) (by decide +kernel)) (goodIn_sub (fun _ h => List.mem_cons_of_mem _ (List.mem_append_left _ (List.mem_append_right _ h))) (by decide +kernel))) (goodIn_sub (fun _ h => List.mem_cons_of_mem _ (List.mem_append_right _ h)) (by decide +kernel))
set_option maxRecDepth 20000 in
theorem gL_addVertices_X3_addVertices : GoodIn wsL_addVertices (wsV RL 17 RX3 yX3_addVertices wsX3_addVertices) := goodIn_app (goodIn_of _ (by decide +kernel)) ggL_addVertices_X3_addVertices
theorem dL_addVertices_0 : decode cL_addVertices 0 = .ok (.aload_n 0, 1) := by decide +kernel
theorem dL_addVertices_1 : decode cL_addVertices 1 = .ok (.iload_n 1, 1) := by decide +kernel
theorem dL_addVertices_2 : decode cL_addVertices 2 = .ok (.invokevirtual 17, 3) := by decide +kernel
theorem dL_addVertices_5 : decode cL_addVertices 5 = .ok (.ireturn, 1) := by decide +kernel
theorem dL_addVertices_6 : decode cL_addVertices 6 = .ok (.astore_n 2, 1) := by decide +kernel
theorem dL_addVertices_7 : decode cL_addVertices 7 = .ok (.bipush (-4), 2) := by decide +kernel
theorem dL_addVertices_9 : decode cL_addVertices 9 = .ok (.ireturn, 1) := by decide +kernel
theorem dL_addVertices_10 : decode cL_addVertices 10 = .ok (.astore_n 2, 1) := by decide +kernel
theorem dL_addVertices_11 : decode cL_addVertices 11 = .ok (.bipush (-5), 2) := by decide +kernel
theorem dL_addVertices_13 : decode cL_addVertices 13 = .ok (.ireturn, 1) := by decide +kernel
set_option maxRecDepth 20000 in
theorem ggL_addEdge_X3_addEdge : GoodIn wsL_addEdge wsX3_addEdge := goodIn_ca (goodIn_ca (goodIn_r _ [7, 8, 9, 10, 11, 12, 13, 14, 15, 6, 16, 17, 18, 19, 20, 21, 22, 23, 24, 25, 26, 27, 28, 29, 30, 31, 32, 33, 34, 35, 36, 37, 38, 39, 40, 41, 42, 43, 44, 45, 46, 47, 48, 49, 50, 51, 52, 53, 54, 55, 56, 57, 58, 59, 60, 61, 62, 63, 64, 65, 66, 67, 68, 69, 70, 71, 72, 73, 74, 75, 76, 77, 78, 79, 80, 81, 82, 83, 84, 85, 86, 87, 88, 89, 90, 91, 92, 93, 94, 95, 96, 97, 98, 99, 100, 101, 102, 103, 104, 105, 106, 107, 108, 109, 110, 111, 112, 113, 114, 115, 116, 117, 118, 119, 120, 121, 122, 123, 124, 125, 126, 127, 128, 129, 130, 131, 132, 133, 134, 135, 136, 137] (by decide +kernel) (by decide +kernel)) (goodIn_sub (fun _ h => List.mem_cons_of_mem _ (List.mem_append_left _ (List.mem_append_right _ h))) (by decide +kernel))) (goodIn_sub (fun _ h => List.mem_cons_of_mem _ (List.mem_append_right _ h)) (by decide +kernel))
set_option maxRecDepth 20000 in
theorem gL_addEdge_X3_addEdge : GoodIn wsL_addEdge (wsV RL 23 RX3 yX3_addEdge wsX3_addEdge) := goodIn_app (goodIn_of _ (by decide +kernel)) ggL_addEdge_X3_addEdge
theorem dL_addEdge_0 : decode cL_addEdge 0 = .ok (.aload_n 0, 1) := by decide +kernel
theorem dL_addEdge_1 : decode cL_addEdge 1 = .ok (.iload_n 1, 1) := by decide +kernel
theorem dL_addEdge_2 : decode cL_addEdge 2 = .ok (.iload_n 2, 1) := by decide +kernel
theorem dL_addEdge_3 : decode cL_addEdge 3 = .ok (.invokevirtual 23, 3) := by decide +kernel
theorem dL_addEdge_6 : decode cL_addEdge 6 = .ok (.ireturn, 1) := by decide +kernel
theorem dL_addEdge_7 : decode cL_addEdge 7 = .ok (.astore_n 3, 1) := by decide +kernel
theorem dL_addEdge_8 : decode cL_addEdge 8 = .ok (.bipush (-3), 2) := by decide +kernel
theorem dL_addEdge_10 : decode cL_addEdge 10 = .ok (.ireturn, 1) := by decide +kernel
theorem dL_addEdge_11 : decode cL_addEdge 11 = .ok (.astore_n 3, 1) := by decide +kernel
theorem dL_addEdge_12 : decode cL_addEdge 12 = .ok (.bipush (-5), 2) := by decide +kernel
theorem dL_addEdge_14 : decode cL_addEdge 14 = .ok (.ireturn, 1) := by decide +kernel
set_option maxRecDepth 20000 in
theorem ggL_of_X3_rank : GoodIn wsL_of wsX3_rank := goodIn_ca (goodIn_ca (goodIn_r _ [7, 8, 9, 10, 11, 6, 12, 13, 14, 15, 16, 17, 18, 19, 20, 21, 22, 23, 24, 25, 26, 27, 28, 29, 30, 31, 32, 33, 34, 35, 36, 37, 38, 39, 40, 102, 103, 104, 105, 106, 107, 108, 109, 110, 111, 112, 113, 114, 115, 116] (by decide +kernel) (by decide +kernel)) (goodIn_sub (fun _ h => List.mem_cons_of_mem _ (List.mem_append_left _ (List.mem_append_right _ h))) (by decide +kernel))) (goodIn_sub (fun _ h => List.mem_cons_of_mem _ (List.mem_append_right _ h)) (by decide +kernel))
set_option maxRecDepth 20000 in
theorem gL_of_X3_rank : GoodIn wsL_of (wsV RL 29 RX3 yX3_rank wsX3_rank) := goodIn_app (goodIn_of _ (by decide +kernel)) ggL_of_X3_rank
set_option maxRecDepth 20000 in
theorem ggL_of_X3_labelSize : GoodIn wsL_of wsX3_labelSize := goodIn_ca (goodIn_ca (goodIn_r _ [44, 8, 9, 10, 11, 6, 12, 13, 14, 15, 16, 17, 18, 19, 20, 21, 22, 23, 24, 25, 26, 27, 28, 29, 30, 31, 32, 45, 46, 47, 36, 48, 49, 39, 40, 50, 51, 52, 53, 54, 55, 56, 102, 103, 104, 105, 106, 107, 108, 109, 110, 111, 112, 113, 114, 115, 116] (by decide +kernel) (by decide +kernel)) (goodIn_sub (fun _ h => List.mem_cons_of_mem _ (List.mem_append_left _ (List.mem_append_right _ h))) (by decide +kernel))) (goodIn_sub (fun _ h => List.mem_cons_of_mem _ (List.mem_append_right _ h)) (by decide +kernel))
set_option maxRecDepth 20000 in
theorem gL_of_X3_labelSize : GoodIn wsL_of (wsV RL 32 RX3 yX3_labelSize wsX3_labelSize) := goodIn_app (goodIn_of _ (by decide +kernel)) ggL_of_X3_labelSize
set_option maxRecDepth 20000 in
theorem ggL_of_X3_distance : GoodIn wsL_of wsX3_distance := goodIn_ca (goodIn_ca (goodIn_r _ [60, 8, 13, 14, 15, 6, 16, 17, 18, 19, 20, 21, 22, 23, 24, 25, 26, 27, 28, 29, 30, 31, 32, 61, 62, 63, 36, 64, 65, 66, 67, 68, 69, 70, 71, 72, 49, 39, 40, 73, 74, 75, 76, 77, 78, 79, 102, 103, 104, 105, 106, 107, 108, 109, 110, 111, 112, 113, 114, 115, 116] (by decide +kernel) (by decide +kernel)) (goodIn_sub (fun _ h => List.mem_cons_of_mem _ (List.mem_append_left _ (List.mem_append_right _ h))) (by decide +kernel))) (goodIn_sub (fun _ h => List.mem_cons_of_mem _ (List.mem_append_right _ h)) (by decide +kernel))
set_option maxRecDepth 20000 in
theorem gL_of_X3_distance : GoodIn wsL_of (wsV RL 35 RX3 yX3_distance wsX3_distance) := goodIn_app (goodIn_of _ (by decide +kernel)) ggL_of_X3_distance
set_option maxRecDepth 20000 in
theorem ggL_of_X3_hub : GoodIn wsL_of wsX3_hub := goodIn_ca (goodIn_ca (goodIn_r _ [83, 8, 13, 14, 15, 6, 16, 17, 18, 19, 20, 21, 22, 23, 24, 25, 26, 27, 28, 29, 30, 31, 32, 84, 66, 67, 36, 68, 69, 70, 71, 72, 49, 39, 40, 73, 74, 75, 76, 77, 78, 79, 85, 86, 87, 88, 89, 102, 103, 104, 105, 106, 107, 108, 109, 110, 111, 112, 113, 114, 115, 116] (by decide +kernel) (by decide +kernel)) (goodIn_sub (fun _ h => List.mem_cons_of_mem _ (List.mem_append_left _ (List.mem_append_right _ h))) (by decide +kernel))) (goodIn_sub (fun _ h => List.mem_cons_of_mem _ (List.mem_append_right _ h)) (by decide +kernel))
set_option maxRecDepth 20000 in
theorem gL_of_X3_hub : GoodIn wsL_of (wsV RL 38 RX3 yX3_hub wsX3_hub) := goodIn_app (goodIn_of _ (by decide +kernel)) ggL_of_X3_hub
set_option maxRecDepth 20000 in
theorem ggL_of_X3_eccentricity : GoodIn wsL_of wsX3_eccentricity := goodIn_ca (goodIn_ca (goodIn_r _ [93, 26, 8, 94, 95, 96, 97, 9, 10, 11, 6, 12, 13, 14, 15, 16, 17, 18, 19, 20, 21, 22, 23, 24, 25, 27, 28, 29, 30, 31, 32, 98, 99, 100, 101, 61, 62, 63, 36, 64, 65, 66, 67, 68, 69, 70, 71, 72, 49, 39, 40, 73, 74, 75, 76, 77, 78, 79, 102, 103, 104, 105, 106, 107, 108, 109, 110, 111, 112, 113, 114, 115, 116] (by decide +kernel) (by decide +kernel)) (goodIn_sub (fun _ h => List.mem_cons_of_mem _ (List.mem_append_left _ (List.mem_append_right _ h))) (by decide +kernel))) (goodIn_sub (fun _ h => List.mem_cons_of_mem _ (List.mem_append_right _ h)) (by decide +kernel))
set_option maxRecDepth 20000 in
theorem gL_of_X3_eccentricity : GoodIn wsL_of (wsV RL 41 RX3 yX3_eccentricity wsX3_eccentricity) := goodIn_app (goodIn_of _ (by decide +kernel)) ggL_of_X3_eccentricity
theorem dL_of_0 : decode cL_of 0 = .ok (.iload_n 1, 1) := by decide +kernel
theorem dL_of_1 : decode cL_of 1 = .ok (.ifCond .ne 11, 3) := by decide +kernel
theorem dL_of_4 : decode cL_of 4 = .ok (.aload_n 0, 1) := by decide +kernel
theorem dL_of_5 : decode cL_of 5 = .ok (.iload_n 2, 1) := by decide +kernel
theorem dL_of_6 : decode cL_of 6 = .ok (.invokevirtual 29, 3) := by decide +kernel
theorem dL_of_9 : decode cL_of 9 = .ok (.goto 49, 3) := by decide +kernel
theorem dL_of_12 : decode cL_of 12 = .ok (.iload_n 1, 1) := by decide +kernel
theorem dL_of_13 : decode cL_of 13 = .ok (.iconst 1, 1) := by decide +kernel
theorem dL_of_14 : decode cL_of 14 = .ok (.if_icmp .ne 11, 3) := by decide +kernel
theorem dL_of_17 : decode cL_of 17 = .ok (.aload_n 0, 1) := by decide +kernel
theorem dL_of_18 : decode cL_of 18 = .ok (.iload_n 2, 1) := by decide +kernel
theorem dL_of_19 : decode cL_of 19 = .ok (.invokevirtual 32, 3) := by decide +kernel
theorem dL_of_22 : decode cL_of 22 = .ok (.goto 36, 3) := by decide +kernel
theorem dL_of_25 : decode cL_of 25 = .ok (.iload_n 1, 1) := by decide +kernel
theorem dL_of_26 : decode cL_of 26 = .ok (.iconst 2, 1) := by decide +kernel
theorem dL_of_27 : decode cL_of 27 = .ok (.if_icmp .ne 12, 3) := by decide +kernel
theorem dL_of_30 : decode cL_of 30 = .ok (.aload_n 0, 1) := by decide +kernel
theorem dL_of_31 : decode cL_of 31 = .ok (.iload_n 2, 1) := by decide +kernel
theorem dL_of_32 : decode cL_of 32 = .ok (.iload_n 3, 1) := by decide +kernel
theorem dL_of_33 : decode cL_of 33 = .ok (.invokevirtual 35, 3) := by decide +kernel
theorem dL_of_36 : decode cL_of 36 = .ok (.goto 22, 3) := by decide +kernel
theorem dL_of_39 : decode cL_of 39 = .ok (.iload_n 1, 1) := by decide +kernel
theorem dL_of_40 : decode cL_of 40 = .ok (.iconst 3, 1) := by decide +kernel
theorem dL_of_41 : decode cL_of 41 = .ok (.if_icmp .ne 12, 3) := by decide +kernel
theorem dL_of_44 : decode cL_of 44 = .ok (.aload_n 0, 1) := by decide +kernel
theorem dL_of_45 : decode cL_of 45 = .ok (.iload_n 2, 1) := by decide +kernel
theorem dL_of_46 : decode cL_of 46 = .ok (.iload_n 3, 1) := by decide +kernel
theorem dL_of_47 : decode cL_of 47 = .ok (.invokevirtual 38, 3) := by decide +kernel
theorem dL_of_50 : decode cL_of 50 = .ok (.goto 8, 3) := by decide +kernel
theorem dL_of_53 : decode cL_of 53 = .ok (.aload_n 0, 1) := by decide +kernel
theorem dL_of_54 : decode cL_of 54 = .ok (.iload_n 2, 1) := by decide +kernel
theorem dL_of_55 : decode cL_of 55 = .ok (.invokevirtual 41, 3) := by decide +kernel
theorem dL_of_58 : decode cL_of 58 = .ok (.ireturn, 1) := by decide +kernel
theorem dL_of_59 : decode cL_of 59 = .ok (.astore 4, 2) := by decide +kernel
theorem dL_of_61 : decode cL_of 61 = .ok (.bipush (-3), 2) := by decide +kernel
theorem dL_of_63 : decode cL_of 63 = .ok (.ireturn, 1) := by decide +kernel
theorem dL_of_64 : decode cL_of 64 = .ok (.astore 4, 2) := by decide +kernel
theorem dL_of_66 : decode cL_of 66 = .ok (.bipush (-5), 2) := by decide +kernel
theorem dL_of_68 : decode cL_of 68 = .ok (.ireturn, 1) := by decide +kernel
set_option maxRecDepth 20000 in
theorem ggL_entry_X3_entryHub : GoodIn wsL_entry wsX3_entryHub := goodIn_ca (goodIn_ca (goodIn_ca (goodIn_r _ [8, 9, 10, 11, 12, 7, 13, 14, 15, 16, 17, 18, 19, 20, 21, 22, 23, 24, 25, 26, 27, 28, 29, 30, 31, 32, 33, 34, 35, 36, 37, 38, 39, 40, 41, 42, 43, 44, 45, 46, 47, 48, 49, 50, 51, 52, 53, 54, 55, 56, 57, 58, 59, 60, 61, 62, 63, 64, 65, 88, 89, 90, 91, 92, 93, 94, 95, 96, 97, 98, 99, 100, 101, 102] (by decide +kernel) (by decide +kernel)) (goodIn_sub (fun _ h => List.mem_cons_of_mem _ (List.mem_append_left _ (List.mem_append_left _ (List.mem_append_right _ h)))) (by decide +kernel))) (goodIn_sub (fun _ h => List.mem_cons_of_mem _ (List.mem_append_left _ (List.mem_append_right _ h))) (by decide +kernel))) (goodIn_sub (fun _ h => List.mem_cons_of_mem _ (List.mem_append_right _ h)) (by decide +kernel))
set_option maxRecDepth 20000 in
theorem gL_entry_X3_entryHub : GoodIn wsL_entry (wsV RL 44 RX3 yX3_entryHub wsX3_entryHub) := goodIn_app (goodIn_of _ (by decide +kernel)) ggL_entry_X3_entryHub
set_option maxRecDepth 20000 in
theorem ggL_entry_X3_entryDistance : GoodIn wsL_entry wsX3_entryDistance := goodIn_ca (goodIn_ca (goodIn_ca (goodIn_r _ [69, 9, 10, 11, 12, 7, 13, 14, 15, 16, 17, 18, 19, 20, 21, 22, 23, 24, 25, 26, 27, 28, 29, 30, 31, 32, 33, 34, 35, 36, 37, 38, 39, 40, 41, 42, 43, 44, 45, 46, 47, 48, 49, 50, 51, 52, 53, 54, 55, 56, 57, 58, 59, 60, 70, 71, 72, 73, 74, 75, 76, 77, 78, 88, 89, 90, 91, 92, 93, 94, 95, 96, 97, 98, 99, 100, 101, 102] (by decide +kernel) (by decide +kernel)) (goodIn_sub (fun _ h => List.mem_cons_of_mem _ (List.mem_append_left _ (List.mem_append_left _ (List.mem_append_right _ h)))) (by decide +kernel))) (goodIn_sub (fun _ h => List.mem_cons_of_mem _ (List.mem_append_left _ (List.mem_append_right _ h))) (by decide +kernel))) (goodIn_sub (fun _ h => List.mem_cons_of_mem _ (List.mem_append_right _ h)) (by decide +kernel))
set_option maxRecDepth 20000 in
theorem gL_entry_X3_entryDistance : GoodIn wsL_entry (wsV RL 47 RX3 yX3_entryDistance wsX3_entryDistance) := goodIn_app (goodIn_of _ (by decide +kernel)) ggL_entry_X3_entryDistance
set_option maxRecDepth 20000 in
theorem ggL_entry_X3_entryParent : GoodIn wsL_entry wsX3_entryParent := goodIn_ca (goodIn_ca (goodIn_ca (goodIn_r _ [82, 9, 10, 11, 12, 7, 13, 14, 15, 16, 17, 18, 19, 20, 21, 22, 23, 24, 25, 26, 27, 28, 29, 30, 31, 32, 33, 34, 35, 36, 37, 38, 39, 40, 41, 42, 43, 44, 45, 46, 47, 48, 49, 50, 51, 52, 53, 54, 55, 56, 57, 58, 59, 60, 83, 84, 85, 86, 87, 75, 76, 77, 78, 88, 89, 90, 91, 92, 93, 94, 95, 96, 97, 98, 99, 100, 101, 102] (by decide +kernel) (by decide +kernel)) (goodIn_sub (fun _ h => List.mem_cons_of_mem _ (List.mem_append_left _ (List.mem_append_left _ (List.mem_append_right _ h)))) (by decide +kernel))) (goodIn_sub (fun _ h => List.mem_cons_of_mem _ (List.mem_append_left _ (List.mem_append_right _ h))) (by decide +kernel))) (goodIn_sub (fun _ h => List.mem_cons_of_mem _ (List.mem_append_right _ h)) (by decide +kernel))
set_option maxRecDepth 20000 in
theorem gL_entry_X3_entryParent : GoodIn wsL_entry (wsV RL 50 RX3 yX3_entryParent wsX3_entryParent) := goodIn_app (goodIn_of _ (by decide +kernel)) ggL_entry_X3_entryParent
theorem dL_entry_0 : decode cL_entry 0 = .ok (.iload_n 1, 1) := by decide +kernel
theorem dL_entry_1 : decode cL_entry 1 = .ok (.ifCond .ne 12, 3) := by decide +kernel
theorem dL_entry_4 : decode cL_entry 4 = .ok (.aload_n 0, 1) := by decide +kernel
theorem dL_entry_5 : decode cL_entry 5 = .ok (.iload_n 2, 1) := by decide +kernel
theorem dL_entry_6 : decode cL_entry 6 = .ok (.iload_n 3, 1) := by decide +kernel
theorem dL_entry_7 : decode cL_entry 7 = .ok (.invokevirtual 44, 3) := by decide +kernel
theorem dL_entry_10 : decode cL_entry 10 = .ok (.goto 23, 3) := by decide +kernel
theorem dL_entry_13 : decode cL_entry 13 = .ok (.iload_n 1, 1) := by decide +kernel
theorem dL_entry_14 : decode cL_entry 14 = .ok (.iconst 1, 1) := by decide +kernel
theorem dL_entry_15 : decode cL_entry 15 = .ok (.if_icmp .ne 12, 3) := by decide +kernel
theorem dL_entry_18 : decode cL_entry 18 = .ok (.aload_n 0, 1) := by decide +kernel
theorem dL_entry_19 : decode cL_entry 19 = .ok (.iload_n 2, 1) := by decide +kernel
theorem dL_entry_20 : decode cL_entry 20 = .ok (.iload_n 3, 1) := by decide +kernel
theorem dL_entry_21 : decode cL_entry 21 = .ok (.invokevirtual 47, 3) := by decide +kernel
theorem dL_entry_24 : decode cL_entry 24 = .ok (.goto 9, 3) := by decide +kernel
theorem dL_entry_27 : decode cL_entry 27 = .ok (.aload_n 0, 1) := by decide +kernel
theorem dL_entry_28 : decode cL_entry 28 = .ok (.iload_n 2, 1) := by decide +kernel
theorem dL_entry_29 : decode cL_entry 29 = .ok (.iload_n 3, 1) := by decide +kernel
theorem dL_entry_30 : decode cL_entry 30 = .ok (.invokevirtual 50, 3) := by decide +kernel
theorem dL_entry_33 : decode cL_entry 33 = .ok (.ireturn, 1) := by decide +kernel
theorem dL_entry_34 : decode cL_entry 34 = .ok (.astore 4, 2) := by decide +kernel
theorem dL_entry_36 : decode cL_entry 36 = .ok (.bipush (-3), 2) := by decide +kernel
theorem dL_entry_38 : decode cL_entry 38 = .ok (.ireturn, 1) := by decide +kernel
theorem dL_entry_39 : decode cL_entry 39 = .ok (.astore 4, 2) := by decide +kernel
theorem dL_entry_41 : decode cL_entry 41 = .ok (.bipush (-5), 2) := by decide +kernel
theorem dL_entry_43 : decode cL_entry 43 = .ok (.ireturn, 1) := by decide +kernel
theorem dL_entry_44 : decode cL_entry 44 = .ok (.astore 4, 2) := by decide +kernel
theorem dL_entry_46 : decode cL_entry 46 = .ok (.bipush (-4), 2) := by decide +kernel
theorem dL_entry_48 : decode cL_entry 48 = .ok (.ireturn, 1) := by decide +kernel
set_option maxRecDepth 20000 in
theorem ggL_pathVertex_X3_pathVertex : GoodIn wsL_pathVertex wsX3_pathVertex := goodIn_ca (goodIn_ca (goodIn_ca (goodIn_r _ [8, 9, 10, 11, 12, 13, 14, 7, 15, 16, 17, 18, 19, 20, 21, 22, 23, 24, 25, 26, 27, 28, 29, 30, 31, 32, 33, 34, 35, 36, 37, 38, 39, 40, 41, 42, 43, 44, 45, 46, 47, 48, 49, 50, 51, 52, 53, 54, 55, 56, 57, 58, 59, 60, 61, 62, 63, 64, 65, 66, 67, 68, 69, 70, 71, 72, 73, 74, 75, 76, 77, 78, 79, 80, 81, 82, 83, 84, 85, 86, 87, 88, 89, 90, 91] (by decide +kernel) (by decide +kernel)) (goodIn_sub (fun _ h => List.mem_cons_of_mem _ (List.mem_append_left _ (List.mem_append_left _ (List.mem_append_right _ h)))) (by decide +kernel))) (goodIn_sub (fun _ h => List.mem_cons_of_mem _ (List.mem_append_left _ (List.mem_append_right _ h))) (by decide +kernel))) (goodIn_sub (fun _ h => List.mem_cons_of_mem _ (List.mem_append_right _ h)) (by decide +kernel))
set_option maxRecDepth 20000 in
theorem gL_pathVertex_X3_pathVertex : GoodIn wsL_pathVertex (wsV RL 53 RX3 yX3_pathVertex wsX3_pathVertex) := goodIn_app (goodIn_of _ (by decide +kernel)) ggL_pathVertex_X3_pathVertex
theorem dL_pathVertex_0 : decode cL_pathVertex 0 = .ok (.aload_n 0, 1) := by decide +kernel
theorem dL_pathVertex_1 : decode cL_pathVertex 1 = .ok (.iload_n 1, 1) := by decide +kernel
theorem dL_pathVertex_2 : decode cL_pathVertex 2 = .ok (.iload_n 2, 1) := by decide +kernel
theorem dL_pathVertex_3 : decode cL_pathVertex 3 = .ok (.iload_n 3, 1) := by decide +kernel
theorem dL_pathVertex_4 : decode cL_pathVertex 4 = .ok (.invokevirtual 53, 3) := by decide +kernel
theorem dL_pathVertex_7 : decode cL_pathVertex 7 = .ok (.ireturn, 1) := by decide +kernel
theorem dL_pathVertex_8 : decode cL_pathVertex 8 = .ok (.astore 4, 2) := by decide +kernel
theorem dL_pathVertex_10 : decode cL_pathVertex 10 = .ok (.bipush (-3), 2) := by decide +kernel
theorem dL_pathVertex_12 : decode cL_pathVertex 12 = .ok (.ireturn, 1) := by decide +kernel
theorem dL_pathVertex_13 : decode cL_pathVertex 13 = .ok (.astore 4, 2) := by decide +kernel
theorem dL_pathVertex_15 : decode cL_pathVertex 15 = .ok (.bipush (-5), 2) := by decide +kernel
theorem dL_pathVertex_17 : decode cL_pathVertex 17 = .ok (.ireturn, 1) := by decide +kernel
theorem dL_pathVertex_18 : decode cL_pathVertex 18 = .ok (.astore 4, 2) := by decide +kernel
theorem dL_pathVertex_20 : decode cL_pathVertex 20 = .ok (.bipush (-4), 2) := by decide +kernel
theorem dL_pathVertex_22 : decode cL_pathVertex 22 = .ok (.ireturn, 1) := by decide +kernel
set_option maxRecDepth 20000 in
theorem ggL_within_X3_within : GoodIn wsL_within wsX3_within := goodIn_ca (goodIn_ca (goodIn_ca (goodIn_r _ [11, 12, 13, 14, 15, 16, 17, 18, 10, 19, 20, 21, 22, 23, 24, 25, 26, 27, 28, 29, 30, 31, 32, 33, 34, 35, 36, 37, 38, 39, 40, 41, 42, 43, 44, 45, 46, 47, 48, 49, 50, 51, 52, 53, 54, 55, 56, 57, 58, 59, 60, 61, 62, 63, 64, 65, 66, 67, 68, 69, 70, 71, 72, 73, 74, 75, 76, 77, 78, 79, 80] (by decide +kernel) (by decide +kernel)) (goodIn_sub (fun _ h => List.mem_cons_of_mem _ (List.mem_append_left _ (List.mem_append_left _ (List.mem_append_right _ h)))) (by decide +kernel))) (goodIn_sub (fun _ h => List.mem_cons_of_mem _ (List.mem_append_left _ (List.mem_append_right _ h))) (by decide +kernel))) (goodIn_sub (fun _ h => List.mem_cons_of_mem _ (List.mem_append_right _ h)) (by decide +kernel))
set_option maxRecDepth 20000 in
theorem gL_within_X3_within : GoodIn wsL_within (wsV RL 57 RX3 yX3_within wsX3_within) := goodIn_app (goodIn_of _ (by decide +kernel)) ggL_within_X3_within
theorem dL_within_0 : decode cL_within 0 = .ok (.aload_n 0, 1) := by decide +kernel
theorem dL_within_1 : decode cL_within 1 = .ok (.iload_n 1, 1) := by decide +kernel
theorem dL_within_2 : decode cL_within 2 = .ok (.iload_n 2, 1) := by decide +kernel
theorem dL_within_3 : decode cL_within 3 = .ok (.invokevirtual 57, 3) := by decide +kernel
theorem dL_within_6 : decode cL_within 6 = .ok (.lreturn, 1) := by decide +kernel
theorem dL_within_7 : decode cL_within 7 = .ok (.astore_n 3, 1) := by decide +kernel
theorem dL_within_8 : decode cL_within 8 = .ok (.ldc2_w 61, 3) := by decide +kernel
theorem dL_within_11 : decode cL_within 11 = .ok (.lreturn, 1) := by decide +kernel
theorem dL_within_12 : decode cL_within 12 = .ok (.astore_n 3, 1) := by decide +kernel
theorem dL_within_13 : decode cL_within 13 = .ok (.ldc2_w 63, 3) := by decide +kernel
theorem dL_within_16 : decode cL_within 16 = .ok (.lreturn, 1) := by decide +kernel
theorem dL_within_17 : decode cL_within 17 = .ok (.astore_n 3, 1) := by decide +kernel
theorem dL_within_18 : decode cL_within 18 = .ok (.ldc2_w 65, 3) := by decide +kernel
theorem dL_within_21 : decode cL_within 21 = .ok (.lreturn, 1) := by decide +kernel
set_option maxRecDepth 20000 in
theorem ggL_neighbours_X3_neighbours : GoodIn wsL_neighbours wsX3_neighbours := goodIn_ca (goodIn_r _ [7, 8, 9, 10, 11, 6, 12, 13, 14, 15, 16, 17, 18, 19, 20, 21, 22, 23, 24, 25, 26, 27, 28, 29, 30, 31, 32, 33, 34, 35, 36] (by decide +kernel) (by decide +kernel)) (goodIn_sub (fun _ h => List.mem_cons_of_mem _ (List.mem_append_right _ h)) (by decide +kernel))
set_option maxRecDepth 20000 in
theorem gL_neighbours_X3_neighbours : GoodIn wsL_neighbours (wsV RL 67 RX3 yX3_neighbours wsX3_neighbours) := goodIn_app (goodIn_of _ (by decide +kernel)) ggL_neighbours_X3_neighbours
theorem dL_neighbours_0 : decode cL_neighbours 0 = .ok (.aload_n 0, 1) := by decide +kernel
theorem dL_neighbours_1 : decode cL_neighbours 1 = .ok (.iload_n 1, 1) := by decide +kernel
theorem dL_neighbours_2 : decode cL_neighbours 2 = .ok (.invokevirtual 67, 3) := by decide +kernel
theorem dL_neighbours_5 : decode cL_neighbours 5 = .ok (.lreturn, 1) := by decide +kernel
theorem dL_neighbours_6 : decode cL_neighbours 6 = .ok (.astore_n 2, 1) := by decide +kernel
theorem dL_neighbours_7 : decode cL_neighbours 7 = .ok (.ldc2_w 61, 3) := by decide +kernel
theorem dL_neighbours_10 : decode cL_neighbours 10 = .ok (.lreturn, 1) := by decide +kernel
set_option maxRecDepth 20000 in
theorem ggL_isNear_X3_neighbours : GoodIn wsL_isNear wsX3_neighbours := goodIn_ca (goodIn_r _ [5, 6, 7, 8, 9, 4, 10, 11, 12, 13, 14, 15, 16, 17, 18, 19, 20, 21, 22, 23, 24, 25, 26, 27, 28, 29, 30, 31, 32, 33, 34] (by decide +kernel) (by decide +kernel)) (goodIn_sub (fun _ h => List.mem_cons_of_mem _ (List.mem_append_right _ h)) (by decide +kernel))
set_option maxRecDepth 20000 in
theorem gL_isNear_X3_neighbours : GoodIn wsL_isNear (wsV RL 67 RX3 yX3_neighbours wsX3_neighbours) := goodIn_app (goodIn_of _ (by decide +kernel)) ggL_isNear_X3_neighbours
theorem dL_isNear_0 : decode cL_isNear 0 = .ok (.aload_n 0, 1) := by decide +kernel
theorem dL_isNear_1 : decode cL_isNear 1 = .ok (.iload_n 1, 1) := by decide +kernel
theorem dL_isNear_2 : decode cL_isNear 2 = .ok (.invokevirtual 67, 3) := by decide +kernel
theorem dL_isNear_5 : decode cL_isNear 5 = .ok (.iload_n 2, 1) := by decide +kernel
theorem dL_isNear_6 : decode cL_isNear 6 = .ok (.lshr, 1) := by decide +kernel
theorem dL_isNear_7 : decode cL_isNear 7 = .ok (.lconst 1, 1) := by decide +kernel
theorem dL_isNear_8 : decode cL_isNear 8 = .ok (.land, 1) := by decide +kernel
theorem dL_isNear_9 : decode cL_isNear 9 = .ok (.lconst 1, 1) := by decide +kernel
theorem dL_isNear_10 : decode cL_isNear 10 = .ok (.lcmp, 1) := by decide +kernel
theorem dL_isNear_11 : decode cL_isNear 11 = .ok (.ifCond .ne 7, 3) := by decide +kernel
theorem dL_isNear_14 : decode cL_isNear 14 = .ok (.iconst 1, 1) := by decide +kernel
theorem dL_isNear_15 : decode cL_isNear 15 = .ok (.goto 4, 3) := by decide +kernel
theorem dL_isNear_18 : decode cL_isNear 18 = .ok (.iconst 0, 1) := by decide +kernel
theorem dL_isNear_19 : decode cL_isNear 19 = .ok (.ireturn, 1) := by decide +kernel
set_option maxRecDepth 20000 in
theorem ggL_isGraph_X3_vertices : GoodIn wsL_isGraph wsX3_vertices := goodIn_r _ [5, 6, 7, 8, 9, 10, 11, 12, 47, 48, 49, 50, 51, 52, 53, 54, 55] (by decide +kernel) (by decide +kernel)
set_option maxRecDepth 20000 in
theorem gL_isGraph_X3_vertices : GoodIn wsL_isGraph (wsV RL 71 RX3 yX3_vertices wsX3_vertices) := goodIn_app (goodIn_of _ (by decide +kernel)) ggL_isGraph_X3_vertices
set_option maxRecDepth 20000 in
theorem ggL_isGraph_L_isNear : GoodIn wsL_isGraph wsL_isNear := goodIn_ca (goodIn_r _ [16, 17, 18, 19, 4, 20, 6, 21, 22, 23, 24, 25, 26, 27, 28, 29, 10, 30, 12, 31, 32, 33, 34, 35, 36, 37, 47, 48, 49, 50, 51, 52, 53, 54, 55] (by decide +kernel) (by decide +kernel)) (goodIn_sub (fun _ h => List.mem_cons_of_mem _ (List.mem_append_right _ h)) (by decide +kernel))
set_option maxRecDepth 20000 in
theorem gL_isGraph_L_isNear : GoodIn wsL_isGraph (va_wsS RL 74 yL_isNear wsL_isNear) := goodIn_app (goodIn_of _ (by decide +kernel)) ggL_isGraph_L_isNear
set_option maxRecDepth 20000 in
theorem ggL_isGraph_X3_neighbours : GoodIn wsL_isGraph wsX3_neighbours := goodIn_ca (goodIn_r _ [20, 6, 21, 22, 23, 4, 24, 25, 26, 27, 28, 29, 10, 30, 12, 31, 32, 33, 34, 35, 36, 37, 47, 48, 49, 50, 51, 52, 53, 54, 55] (by decide +kernel) (by decide +kernel)) (goodIn_sub (fun _ h => List.mem_cons_of_mem _ (List.mem_append_right _ h)) (by decide +kernel))
set_option maxRecDepth 20000 in
theorem gL_isGraph_X3_neighbours : GoodIn wsL_isGraph (wsV RL 67 RX3 yX3_neighbours wsX3_neighbours) := goodIn_app (goodIn_of _ (by decide +kernel)) ggL_isGraph_X3_neighbours
set_option maxRecDepth 20000 in
theorem ggL_isGraph_X3_edges : GoodIn wsL_isGraph wsX3_edges := goodIn_r _ [41, 6, 42, 43, 44, 10, 45, 46, 47, 48, 49, 50, 51, 52, 53, 54, 55] (by decide +kernel) (by decide +kernel)
set_option maxRecDepth 20000 in
theorem gL_isGraph_X3_edges : GoodIn wsL_isGraph (wsV RL 80 RX3 yX3_edges wsX3_edges) := goodIn_app (goodIn_of _ (by decide +kernel)) ggL_isGraph_X3_edges
theorem dL_isGraph_0 : decode cL_isGraph 0 = .ok (.iconst 0, 1) := by decide +kernel
theorem dL_isGraph_1 : decode cL_isGraph 1 = .ok (.istore_n 1, 1) := by decide +kernel
theorem dL_isGraph_2 : decode cL_isGraph 2 = .ok (.iconst 1, 1) := by decide +kernel
theorem dL_isGraph_3 : decode cL_isGraph 3 = .ok (.istore_n 2, 1) := by decide +kernel
theorem dL_isGraph_4 : decode cL_isGraph 4 = .ok (.iconst 0, 1) := by decide +kernel
theorem dL_isGraph_5 : decode cL_isGraph 5 = .ok (.istore_n 3, 1) := by decide +kernel
theorem dL_isGraph_6 : decode cL_isGraph 6 = .ok (.iload_n 3, 1) := by decide +kernel
theorem dL_isGraph_7 : decode cL_isGraph 7 = .ok (.aload_n 0, 1) := by decide +kernel
theorem dL_isGraph_8 : decode cL_isGraph 8 = .ok (.invokevirtual 71, 3) := by decide +kernel
theorem dL_isGraph_11 : decode cL_isGraph 11 = .ok (.if_icmp .ge 106, 3) := by decide +kernel
theorem dL_isGraph_14 : decode cL_isGraph 14 = .ok (.iload_n 2, 1) := by decide +kernel
theorem dL_isGraph_15 : decode cL_isGraph 15 = .ok (.ifCond .eq 102, 3) := by decide +kernel
theorem dL_isGraph_18 : decode cL_isGraph 18 = .ok (.aload_n 0, 1) := by decide +kernel
theorem dL_isGraph_19 : decode cL_isGraph 19 = .ok (.iload_n 3, 1) := by decide +kernel
theorem dL_isGraph_20 : decode cL_isGraph 20 = .ok (.iload_n 3, 1) := by decide +kernel
theorem dL_isGraph_21 : decode cL_isGraph 21 = .ok (.invokestatic 74, 3) := by decide +kernel
theorem dL_isGraph_24 : decode cL_isGraph 24 = .ok (.ifCond .ne 22, 3) := by decide +kernel
theorem dL_isGraph_27 : decode cL_isGraph 27 = .ok (.aload_n 0, 1) := by decide +kernel
theorem dL_isGraph_28 : decode cL_isGraph 28 = .ok (.iload_n 3, 1) := by decide +kernel
theorem dL_isGraph_29 : decode cL_isGraph 29 = .ok (.invokevirtual 67, 3) := by decide +kernel
theorem dL_isGraph_32 : decode cL_isGraph 32 = .ok (.aload_n 0, 1) := by decide +kernel
theorem dL_isGraph_33 : decode cL_isGraph 33 = .ok (.invokevirtual 71, 3) := by decide +kernel
theorem dL_isGraph_36 : decode cL_isGraph 36 = .ok (.lshr, 1) := by decide +kernel
theorem dL_isGraph_37 : decode cL_isGraph 37 = .ok (.lconst 0, 1) := by decide +kernel
theorem dL_isGraph_38 : decode cL_isGraph 38 = .ok (.lcmp, 1) := by decide +kernel
theorem dL_isGraph_39 : decode cL_isGraph 39 = .ok (.ifCond .ne 7, 3) := by decide +kernel
theorem dL_isGraph_42 : decode cL_isGraph 42 = .ok (.iconst 1, 1) := by decide +kernel
theorem dL_isGraph_43 : decode cL_isGraph 43 = .ok (.goto 4, 3) := by decide +kernel
theorem dL_isGraph_46 : decode cL_isGraph 46 = .ok (.iconst 0, 1) := by decide +kernel
theorem dL_isGraph_47 : decode cL_isGraph 47 = .ok (.istore_n 2, 1) := by decide +kernel
theorem dL_isGraph_48 : decode cL_isGraph 48 = .ok (.iconst 0, 1) := by decide +kernel
theorem dL_isGraph_49 : decode cL_isGraph 49 = .ok (.istore 4, 2) := by decide +kernel
theorem dL_isGraph_51 : decode cL_isGraph 51 = .ok (.iload 4, 2) := by decide +kernel
theorem dL_isGraph_53 : decode cL_isGraph 53 = .ok (.aload_n 0, 1) := by decide +kernel
theorem dL_isGraph_54 : decode cL_isGraph 54 = .ok (.invokevirtual 71, 3) := by decide +kernel
theorem dL_isGraph_57 : decode cL_isGraph 57 = .ok (.if_icmp .ge 54, 3) := by decide +kernel
theorem dL_isGraph_60 : decode cL_isGraph 60 = .ok (.iload_n 2, 1) := by decide +kernel
theorem dL_isGraph_61 : decode cL_isGraph 61 = .ok (.ifCond .eq 50, 3) := by decide +kernel
theorem dL_isGraph_64 : decode cL_isGraph 64 = .ok (.iload_n 1, 1) := by decide +kernel
theorem dL_isGraph_65 : decode cL_isGraph 65 = .ok (.aload_n 0, 1) := by decide +kernel
theorem dL_isGraph_66 : decode cL_isGraph 66 = .ok (.iload_n 3, 1) := by decide +kernel
theorem dL_isGraph_67 : decode cL_isGraph 67 = .ok (.iload 4, 2) := by decide +kernel
theorem dL_isGraph_69 : decode cL_isGraph 69 = .ok (.invokestatic 74, 3) := by decide +kernel
theorem dL_isGraph_72 : decode cL_isGraph 72 = .ok (.ifCond .eq 7, 3) := by decide +kernel
theorem dL_isGraph_75 : decode cL_isGraph 75 = .ok (.iconst 1, 1) := by decide +kernel
theorem dL_isGraph_76 : decode cL_isGraph 76 = .ok (.goto 4, 3) := by decide +kernel
theorem dL_isGraph_79 : decode cL_isGraph 79 = .ok (.iconst 0, 1) := by decide +kernel
theorem dL_isGraph_80 : decode cL_isGraph 80 = .ok (.iadd, 1) := by decide +kernel
theorem dL_isGraph_81 : decode cL_isGraph 81 = .ok (.istore_n 1, 1) := by decide +kernel
theorem dL_isGraph_82 : decode cL_isGraph 82 = .ok (.aload_n 0, 1) := by decide +kernel
theorem dL_isGraph_83 : decode cL_isGraph 83 = .ok (.iload_n 3, 1) := by decide +kernel
theorem dL_isGraph_84 : decode cL_isGraph 84 = .ok (.iload 4, 2) := by decide +kernel
theorem dL_isGraph_86 : decode cL_isGraph 86 = .ok (.invokestatic 74, 3) := by decide +kernel
theorem dL_isGraph_89 : decode cL_isGraph 89 = .ok (.aload_n 0, 1) := by decide +kernel
theorem dL_isGraph_90 : decode cL_isGraph 90 = .ok (.iload 4, 2) := by decide +kernel
theorem dL_isGraph_92 : decode cL_isGraph 92 = .ok (.iload_n 3, 1) := by decide +kernel
theorem dL_isGraph_93 : decode cL_isGraph 93 = .ok (.invokestatic 74, 3) := by decide +kernel
theorem dL_isGraph_96 : decode cL_isGraph 96 = .ok (.if_icmp .ne 7, 3) := by decide +kernel
theorem dL_isGraph_99 : decode cL_isGraph 99 = .ok (.iconst 1, 1) := by decide +kernel
theorem dL_isGraph_100 : decode cL_isGraph 100 = .ok (.goto 4, 3) := by decide +kernel
theorem dL_isGraph_103 : decode cL_isGraph 103 = .ok (.iconst 0, 1) := by decide +kernel
theorem dL_isGraph_104 : decode cL_isGraph 104 = .ok (.istore_n 2, 1) := by decide +kernel
theorem dL_isGraph_105 : decode cL_isGraph 105 = .ok (.iinc 4 1, 3) := by decide +kernel
theorem dL_isGraph_108 : decode cL_isGraph 108 = .ok (.goto (-57), 3) := by decide +kernel
theorem dL_isGraph_111 : decode cL_isGraph 111 = .ok (.iinc 3 1, 3) := by decide +kernel
theorem dL_isGraph_114 : decode cL_isGraph 114 = .ok (.goto (-108), 3) := by decide +kernel
theorem dL_isGraph_117 : decode cL_isGraph 117 = .ok (.iload_n 2, 1) := by decide +kernel
theorem dL_isGraph_118 : decode cL_isGraph 118 = .ok (.ifCond .eq 17, 3) := by decide +kernel
theorem dL_isGraph_121 : decode cL_isGraph 121 = .ok (.iload_n 1, 1) := by decide +kernel
theorem dL_isGraph_122 : decode cL_isGraph 122 = .ok (.iconst 2, 1) := by decide +kernel
theorem dL_isGraph_123 : decode cL_isGraph 123 = .ok (.aload_n 0, 1) := by decide +kernel
theorem dL_isGraph_124 : decode cL_isGraph 124 = .ok (.invokevirtual 80, 3) := by decide +kernel
theorem dL_isGraph_127 : decode cL_isGraph 127 = .ok (.imul, 1) := by decide +kernel
theorem dL_isGraph_128 : decode cL_isGraph 128 = .ok (.if_icmp .ne 7, 3) := by decide +kernel
theorem dL_isGraph_131 : decode cL_isGraph 131 = .ok (.iconst 1, 1) := by decide +kernel
theorem dL_isGraph_132 : decode cL_isGraph 132 = .ok (.goto 4, 3) := by decide +kernel
theorem dL_isGraph_135 : decode cL_isGraph 135 = .ok (.iconst 0, 1) := by decide +kernel
theorem dL_isGraph_136 : decode cL_isGraph 136 = .ok (.ireturn, 1) := by decide +kernel
set_option maxRecDepth 20000 in
theorem ggL_graph_X3_vertices : GoodIn wsL_graph wsX3_vertices := goodIn_r _ [11, 12, 13, 14, 15, 16, 17, 18, 74, 75, 76, 77, 78, 79, 80, 81, 82] (by decide +kernel) (by decide +kernel)
set_option maxRecDepth 20000 in
theorem gL_graph_X3_vertices : GoodIn wsL_graph (wsV RL 71 RX3 yX3_vertices wsX3_vertices) := goodIn_app (goodIn_of _ (by decide +kernel)) ggL_graph_X3_vertices
set_option maxRecDepth 20000 in
theorem ggL_graph_X3_edges : GoodIn wsL_graph wsX3_edges := goodIn_r _ [22, 12, 23, 24, 25, 16, 26, 27, 74, 75, 76, 77, 78, 79, 80, 81, 82] (by decide +kernel) (by decide +kernel)
set_option maxRecDepth 20000 in
theorem gL_graph_X3_edges : GoodIn wsL_graph (wsV RL 80 RX3 yX3_edges wsX3_edges) := goodIn_app (goodIn_of _ (by decide +kernel)) ggL_graph_X3_edges
set_option maxRecDepth 20000 in
theorem ggL_graph_X3_isBuilt : GoodIn wsL_graph wsX3_isBuilt := goodIn_r _ [31, 32, 74, 75, 76, 77, 78, 79] (by decide +kernel) (by decide +kernel)
set_option maxRecDepth 20000 in
theorem gL_graph_X3_isBuilt : GoodIn wsL_graph (wsV RL 87 RX3 yX3_isBuilt wsX3_isBuilt) := goodIn_app (goodIn_of _ (by decide +kernel)) ggL_graph_X3_isBuilt
set_option maxRecDepth 20000 in
theorem ggL_graph_X3_pruned : GoodIn wsL_graph wsX3_pruned := goodIn_r _ [36, 37, 38, 39, 40, 41, 42, 43, 74, 75, 76, 77, 78, 79, 83, 84, 85, 86, 87, 88, 89, 90, 91, 92] (by decide +kernel) (by decide +kernel)
set_option maxRecDepth 20000 in
theorem gL_graph_X3_pruned : GoodIn wsL_graph (wsV RL 95 RX3 yX3_pruned wsX3_pruned) := goodIn_app (goodIn_of _ (by decide +kernel)) ggL_graph_X3_pruned
set_option maxRecDepth 20000 in
theorem ggL_graph_X3_written : GoodIn wsL_graph wsX3_written := goodIn_r _ [47, 37, 48, 49, 50, 41, 51, 52, 74, 75, 76, 77, 78, 79, 83, 84, 85, 86, 87, 88, 89, 90, 91, 92] (by decide +kernel) (by decide +kernel)
set_option maxRecDepth 20000 in
theorem gL_graph_X3_written : GoodIn wsL_graph (wsV RL 100 RX3 yX3_written wsX3_written) := goodIn_app (goodIn_of _ (by decide +kernel)) ggL_graph_X3_written
set_option maxRecDepth 20000 in
theorem ggL_graph_X3_neighbours : GoodIn wsL_graph wsX3_neighbours := goodIn_ca (goodIn_r _ [56, 12, 57, 58, 59, 10, 60, 61, 62, 63, 64, 65, 16, 66, 18, 67, 68, 69, 70, 71, 72, 73, 74, 75, 76, 77, 78, 79, 80, 81, 82] (by decide +kernel) (by decide +kernel)) (goodIn_sub (fun _ h => List.mem_cons_of_mem _ (List.mem_append_right _ h)) (by decide +kernel))
set_option maxRecDepth 20000 in
theorem gL_graph_X3_neighbours : GoodIn wsL_graph (wsV RL 67 RX3 yX3_neighbours wsX3_neighbours) := goodIn_app (goodIn_of _ (by decide +kernel)) ggL_graph_X3_neighbours
theorem dL_graph_0 : decode cL_graph 0 = .ok (.ldc2_w 83, 3) := by decide +kernel
theorem dL_graph_3 : decode cL_graph 3 = .ok (.aload_n 0, 1) := by decide +kernel
theorem dL_graph_4 : decode cL_graph 4 = .ok (.invokevirtual 71, 3) := by decide +kernel
theorem dL_graph_7 : decode cL_graph 7 = .ok (.i2l, 1) := by decide +kernel
theorem dL_graph_8 : decode cL_graph 8 = .ok (.lmul, 1) := by decide +kernel
theorem dL_graph_9 : decode cL_graph 9 = .ok (.ldc2_w 85, 3) := by decide +kernel
theorem dL_graph_12 : decode cL_graph 12 = .ok (.aload_n 0, 1) := by decide +kernel
theorem dL_graph_13 : decode cL_graph 13 = .ok (.invokevirtual 80, 3) := by decide +kernel
theorem dL_graph_16 : decode cL_graph 16 = .ok (.i2l, 1) := by decide +kernel
theorem dL_graph_17 : decode cL_graph 17 = .ok (.lmul, 1) := by decide +kernel
theorem dL_graph_18 : decode cL_graph 18 = .ok (.ladd, 1) := by decide +kernel
theorem dL_graph_19 : decode cL_graph 19 = .ok (.aload_n 0, 1) := by decide +kernel
theorem dL_graph_20 : decode cL_graph 20 = .ok (.invokevirtual 87, 3) := by decide +kernel
theorem dL_graph_23 : decode cL_graph 23 = .ok (.ifCond .eq 9, 3) := by decide +kernel
theorem dL_graph_26 : decode cL_graph 26 = .ok (.ldc2_w 91, 3) := by decide +kernel
theorem dL_graph_29 : decode cL_graph 29 = .ok (.goto 4, 3) := by decide +kernel
theorem dL_graph_32 : decode cL_graph 32 = .ok (.lconst 0, 1) := by decide +kernel
theorem dL_graph_33 : decode cL_graph 33 = .ok (.ladd, 1) := by decide +kernel
theorem dL_graph_34 : decode cL_graph 34 = .ok (.ldc2_w 93, 3) := by decide +kernel
theorem dL_graph_37 : decode cL_graph 37 = .ok (.aload_n 0, 1) := by decide +kernel
theorem dL_graph_38 : decode cL_graph 38 = .ok (.invokevirtual 95, 3) := by decide +kernel
theorem dL_graph_41 : decode cL_graph 41 = .ok (.i2l, 1) := by decide +kernel
theorem dL_graph_42 : decode cL_graph 42 = .ok (.lmul, 1) := by decide +kernel
theorem dL_graph_43 : decode cL_graph 43 = .ok (.ladd, 1) := by decide +kernel
theorem dL_graph_44 : decode cL_graph 44 = .ok (.ldc2_w 98, 3) := by decide +kernel
theorem dL_graph_47 : decode cL_graph 47 = .ok (.aload_n 0, 1) := by decide +kernel
theorem dL_graph_48 : decode cL_graph 48 = .ok (.invokevirtual 100, 3) := by decide +kernel
theorem dL_graph_51 : decode cL_graph 51 = .ok (.i2l, 1) := by decide +kernel
theorem dL_graph_52 : decode cL_graph 52 = .ok (.lmul, 1) := by decide +kernel
theorem dL_graph_53 : decode cL_graph 53 = .ok (.ladd, 1) := by decide +kernel
theorem dL_graph_54 : decode cL_graph 54 = .ok (.lstore_n 1, 1) := by decide +kernel
theorem dL_graph_55 : decode cL_graph 55 = .ok (.iconst 0, 1) := by decide +kernel
theorem dL_graph_56 : decode cL_graph 56 = .ok (.istore_n 3, 1) := by decide +kernel
theorem dL_graph_57 : decode cL_graph 57 = .ok (.iload_n 3, 1) := by decide +kernel
theorem dL_graph_58 : decode cL_graph 58 = .ok (.aload_n 0, 1) := by decide +kernel
theorem dL_graph_59 : decode cL_graph 59 = .ok (.invokevirtual 71, 3) := by decide +kernel
theorem dL_graph_62 : decode cL_graph 62 = .ok (.if_icmp .ge 21, 3) := by decide +kernel
theorem dL_graph_65 : decode cL_graph 65 = .ok (.ldc2_w 103, 3) := by decide +kernel
theorem dL_graph_68 : decode cL_graph 68 = .ok (.lload_n 1, 1) := by decide +kernel
theorem dL_graph_69 : decode cL_graph 69 = .ok (.lmul, 1) := by decide +kernel
theorem dL_graph_70 : decode cL_graph 70 = .ok (.aload_n 0, 1) := by decide +kernel
theorem dL_graph_71 : decode cL_graph 71 = .ok (.iload_n 3, 1) := by decide +kernel
theorem dL_graph_72 : decode cL_graph 72 = .ok (.invokevirtual 67, 3) := by decide +kernel
theorem dL_graph_75 : decode cL_graph 75 = .ok (.ladd, 1) := by decide +kernel
theorem dL_graph_76 : decode cL_graph 76 = .ok (.lstore_n 1, 1) := by decide +kernel
theorem dL_graph_77 : decode cL_graph 77 = .ok (.iinc 3 1, 3) := by decide +kernel
theorem dL_graph_80 : decode cL_graph 80 = .ok (.goto (-23), 3) := by decide +kernel
theorem dL_graph_83 : decode cL_graph 83 = .ok (.lload_n 1, 1) := by decide +kernel
theorem dL_graph_84 : decode cL_graph 84 = .ok (.lreturn, 1) := by decide +kernel
set_option maxRecDepth 20000 in
theorem ggL_labels_X3_entries : GoodIn wsL_labels wsX3_entries := goodIn_r _ [9, 10, 11, 12, 13, 14, 15, 16, 17, 18, 19, 20, 21, 22, 8, 23, 24, 25, 26, 27, 28, 29, 30, 123, 124, 125, 126, 127, 128, 129, 130, 131, 132, 133, 134] (by decide +kernel) (by decide +kernel)
set_option maxRecDepth 20000 in
theorem gL_labels_X3_entries : GoodIn wsL_labels (wsV RL 105 RX3 yX3_entries wsX3_entries) := goodIn_app (goodIn_of _ (by decide +kernel)) ggL_labels_X3_entries
set_option maxRecDepth 20000 in
theorem ggL_labels_X3_vertices : GoodIn wsL_labels wsX3_vertices := goodIn_r _ [34, 35, 36, 37, 38, 39, 40, 41, 123, 124, 125, 126, 127, 128, 135, 136, 137] (by decide +kernel) (by decide +kernel)
set_option maxRecDepth 20000 in
theorem gL_labels_X3_vertices : GoodIn wsL_labels (wsV RL 71 RX3 yX3_vertices wsX3_vertices) := goodIn_app (goodIn_of _ (by decide +kernel)) ggL_labels_X3_vertices
set_option maxRecDepth 20000 in
theorem ggL_labels_X3_isBuilt : GoodIn wsL_labels wsX3_isBuilt := goodIn_r _ [45, 10, 123, 124, 125, 126, 127, 128] (by decide +kernel) (by decide +kernel)
set_option maxRecDepth 20000 in
theorem gL_labels_X3_isBuilt : GoodIn wsL_labels (wsV RL 87 RX3 yX3_isBuilt wsX3_isBuilt) := goodIn_app (goodIn_of _ (by decide +kernel)) ggL_labels_X3_isBuilt
set_option maxRecDepth 20000 in
theorem ggL_labels_X3_rank : GoodIn wsL_labels wsX3_rank := goodIn_ca (goodIn_ca (goodIn_r _ [49, 11, 50, 51, 52, 8, 53, 54, 55, 56, 57, 58, 59, 10, 60, 61, 62, 63, 64, 65, 35, 66, 67, 68, 39, 69, 41, 70, 71, 72, 15, 73, 74, 22, 23, 123, 124, 125, 126, 127, 128, 135, 136, 137, 129, 130, 131, 132, 133, 134] (by decide +kernel) (by decide +kernel)) (goodIn_sub (fun _ h => List.mem_cons_of_mem _ (List.mem_append_left _ (List.mem_append_left _ (List.mem_append_right _ h)))) (by decide +kernel))) (goodIn_sub (fun _ h => List.mem_cons_of_mem _ (List.mem_append_left _ (List.mem_append_right _ h))) (by decide +kernel))
set_option maxRecDepth 20000 in
theorem gL_labels_X3_rank : GoodIn wsL_labels (wsV RL 29 RX3 yX3_rank wsX3_rank) := goodIn_app (goodIn_of _ (by decide +kernel)) ggL_labels_X3_rank
set_option maxRecDepth 20000 in
theorem ggL_labels_X3_labelSize : GoodIn wsL_labels wsX3_labelSize := goodIn_ca (goodIn_ca (goodIn_r _ [78, 11, 50, 51, 52, 8, 53, 54, 55, 56, 57, 58, 59, 10, 60, 61, 62, 63, 64, 65, 35, 66, 67, 68, 39, 69, 41, 79, 18, 19, 15, 20, 21, 22, 23, 24, 25, 26, 27, 28, 29, 30, 123, 124, 125, 126, 127, 128, 135, 136, 137, 129, 130, 131, 132, 133, 134] (by decide +kernel) (by decide +kernel)) (goodIn_sub (fun _ h => List.mem_cons_of_mem _ (List.mem_append_left _ (List.mem_append_left _ (List.mem_append_right _ h)))) (by decide +kernel))) (goodIn_sub (fun _ h => List.mem_cons_of_mem _ (List.mem_append_left _ (List.mem_append_right _ h))) (by decide +kernel))
set_option maxRecDepth 20000 in
theorem gL_labels_X3_labelSize : GoodIn wsL_labels (wsV RL 32 RX3 yX3_labelSize wsX3_labelSize) := goodIn_app (goodIn_of _ (by decide +kernel)) ggL_labels_X3_labelSize
set_option maxRecDepth 20000 in
theorem ggL_labels_X3_entryHub : GoodIn wsL_labels wsX3_entryHub := goodIn_ca (goodIn_ca (goodIn_ca (goodIn_r _ [83, 11, 50, 51, 52, 8, 53, 54, 55, 56, 57, 58, 59, 10, 60, 61, 62, 63, 64, 65, 35, 66, 67, 68, 39, 69, 41, 84, 85, 86, 87, 88, 89, 79, 18, 19, 15, 20, 21, 22, 23, 24, 25, 26, 27, 28, 29, 30, 90, 91, 92, 93, 94, 95, 96, 97, 98, 99, 100, 123, 124, 125, 126, 127, 128, 135, 136, 137, 129, 130, 131, 132, 133, 134] (by decide +kernel) (by decide +kernel)) (goodIn_sub (fun _ h => List.mem_cons_of_mem _ (List.mem_append_left _ (List.mem_append_left _ (List.mem_append_right _ h)))) (by decide +kernel))) (goodIn_sub (fun _ h => List.mem_cons_of_mem _ (List.mem_append_left _ (List.mem_append_right _ h))) (by decide +kernel))) (goodIn_sub (fun _ h => List.mem_cons_of_mem _ (List.mem_append_right _ h)) (by decide +kernel))
set_option maxRecDepth 20000 in
theorem gL_labels_X3_entryHub : GoodIn wsL_labels (wsV RL 44 RX3 yX3_entryHub wsX3_entryHub) := goodIn_app (goodIn_of _ (by decide +kernel)) ggL_labels_X3_entryHub
set_option maxRecDepth 20000 in
theorem ggL_labels_X3_entryDistance : GoodIn wsL_labels wsX3_entryDistance := goodIn_ca (goodIn_ca (goodIn_ca (goodIn_r _ [104, 11, 50, 51, 52, 8, 53, 54, 55, 56, 57, 58, 59, 10, 60, 61, 62, 63, 64, 65, 35, 66, 67, 68, 39, 69, 41, 84, 85, 86, 87, 88, 89, 79, 18, 19, 15, 20, 21, 22, 23, 24, 25, 26, 27, 28, 29, 30, 90, 91, 92, 93, 94, 95, 105, 106, 107, 108, 109, 110, 111, 112, 113, 123, 124, 125, 126, 127, 128, 135, 136, 137, 129, 130, 131, 132, 133, 134] (by decide +kernel) (by decide +kernel)) (goodIn_sub (fun _ h => List.mem_cons_of_mem _ (List.mem_append_left _ (List.mem_append_left _ (List.mem_append_right _ h)))) (by decide +kernel))) (goodIn_sub (fun _ h => List.mem_cons_of_mem _ (List.mem_append_left _ (List.mem_append_right _ h))) (by decide +kernel))) (goodIn_sub (fun _ h => List.mem_cons_of_mem _ (List.mem_append_right _ h)) (by decide +kernel))
set_option maxRecDepth 20000 in
theorem gL_labels_X3_entryDistance : GoodIn wsL_labels (wsV RL 47 RX3 yX3_entryDistance wsX3_entryDistance) := goodIn_app (goodIn_of _ (by decide +kernel)) ggL_labels_X3_entryDistance
set_option maxRecDepth 20000 in
theorem ggL_labels_X3_entryParent : GoodIn wsL_labels wsX3_entryParent := goodIn_ca (goodIn_ca (goodIn_ca (goodIn_r _ [117, 11, 50, 51, 52, 8, 53, 54, 55, 56, 57, 58, 59, 10, 60, 61, 62, 63, 64, 65, 35, 66, 67, 68, 39, 69, 41, 84, 85, 86, 87, 88, 89, 79, 18, 19, 15, 20, 21, 22, 23, 24, 25, 26, 27, 28, 29, 30, 90, 91, 92, 93, 94, 95, 118, 119, 120, 121, 122, 110, 111, 112, 113, 123, 124, 125, 126, 127, 128, 135, 136, 137, 129, 130, 131, 132, 133, 134] (by decide +kernel) (by decide +kernel)) (goodIn_sub (fun _ h => List.mem_cons_of_mem _ (List.mem_append_left _ (List.mem_append_left _ (List.mem_append_right _ h)))) (by decide +kernel))) (goodIn_sub (fun _ h => List.mem_cons_of_mem _ (List.mem_append_left _ (List.mem_append_right _ h))) (by decide +kernel))) (goodIn_sub (fun _ h => List.mem_cons_of_mem _ (List.mem_append_right _ h)) (by decide +kernel))
set_option maxRecDepth 20000 in
theorem gL_labels_X3_entryParent : GoodIn wsL_labels (wsV RL 50 RX3 yX3_entryParent wsX3_entryParent) := goodIn_app (goodIn_of _ (by decide +kernel)) ggL_labels_X3_entryParent
theorem dL_labels_0 : decode cL_labels 0 = .ok (.aload_n 0, 1) := by decide +kernel
theorem dL_labels_1 : decode cL_labels 1 = .ok (.invokevirtual 105, 3) := by decide +kernel
theorem dL_labels_4 : decode cL_labels 4 = .ok (.i2l, 1) := by decide +kernel
theorem dL_labels_5 : decode cL_labels 5 = .ok (.lstore_n 1, 1) := by decide +kernel
theorem dL_labels_6 : decode cL_labels 6 = .ok (.iconst 0, 1) := by decide +kernel
theorem dL_labels_7 : decode cL_labels 7 = .ok (.istore_n 3, 1) := by decide +kernel
theorem dL_labels_8 : decode cL_labels 8 = .ok (.iload_n 3, 1) := by decide +kernel
theorem dL_labels_9 : decode cL_labels 9 = .ok (.aload_n 0, 1) := by decide +kernel
theorem dL_labels_10 : decode cL_labels 10 = .ok (.invokevirtual 71, 3) := by decide +kernel
theorem dL_labels_13 : decode cL_labels 13 = .ok (.if_icmp .ge 89, 3) := by decide +kernel
theorem dL_labels_16 : decode cL_labels 16 = .ok (.aload_n 0, 1) := by decide +kernel
theorem dL_labels_17 : decode cL_labels 17 = .ok (.invokevirtual 87, 3) := by decide +kernel
theorem dL_labels_20 : decode cL_labels 20 = .ok (.ifCond .eq 82, 3) := by decide +kernel
theorem dL_labels_23 : decode cL_labels 23 = .ok (.ldc2_w 108, 3) := by decide +kernel
theorem dL_labels_26 : decode cL_labels 26 = .ok (.lload_n 1, 1) := by decide +kernel
theorem dL_labels_27 : decode cL_labels 27 = .ok (.lmul, 1) := by decide +kernel
theorem dL_labels_28 : decode cL_labels 28 = .ok (.aload_n 0, 1) := by decide +kernel
theorem dL_labels_29 : decode cL_labels 29 = .ok (.iload_n 3, 1) := by decide +kernel
theorem dL_labels_30 : decode cL_labels 30 = .ok (.invokevirtual 29, 3) := by decide +kernel
theorem dL_labels_33 : decode cL_labels 33 = .ok (.i2l, 1) := by decide +kernel
theorem dL_labels_34 : decode cL_labels 34 = .ok (.ladd, 1) := by decide +kernel
theorem dL_labels_35 : decode cL_labels 35 = .ok (.lstore_n 1, 1) := by decide +kernel
theorem dL_labels_36 : decode cL_labels 36 = .ok (.iconst 0, 1) := by decide +kernel
theorem dL_labels_37 : decode cL_labels 37 = .ok (.istore 4, 2) := by decide +kernel
theorem dL_labels_39 : decode cL_labels 39 = .ok (.iload 4, 2) := by decide +kernel
theorem dL_labels_41 : decode cL_labels 41 = .ok (.aload_n 0, 1) := by decide +kernel
theorem dL_labels_42 : decode cL_labels 42 = .ok (.iload_n 3, 1) := by decide +kernel
theorem dL_labels_43 : decode cL_labels 43 = .ok (.invokevirtual 32, 3) := by decide +kernel
theorem dL_labels_46 : decode cL_labels 46 = .ok (.if_icmp .ge 50, 3) := by decide +kernel
theorem dL_labels_49 : decode cL_labels 49 = .ok (.ldc2_w 110, 3) := by decide +kernel
theorem dL_labels_52 : decode cL_labels 52 = .ok (.lload_n 1, 1) := by decide +kernel
theorem dL_labels_53 : decode cL_labels 53 = .ok (.lmul, 1) := by decide +kernel
theorem dL_labels_54 : decode cL_labels 54 = .ok (.ldc2_w 112, 3) := by decide +kernel
theorem dL_labels_57 : decode cL_labels 57 = .ok (.aload_n 0, 1) := by decide +kernel
theorem dL_labels_58 : decode cL_labels 58 = .ok (.iload_n 3, 1) := by decide +kernel
theorem dL_labels_59 : decode cL_labels 59 = .ok (.iload 4, 2) := by decide +kernel
theorem dL_labels_61 : decode cL_labels 61 = .ok (.invokevirtual 44, 3) := by decide +kernel
theorem dL_labels_64 : decode cL_labels 64 = .ok (.i2l, 1) := by decide +kernel
theorem dL_labels_65 : decode cL_labels 65 = .ok (.lmul, 1) := by decide +kernel
theorem dL_labels_66 : decode cL_labels 66 = .ok (.ladd, 1) := by decide +kernel
theorem dL_labels_67 : decode cL_labels 67 = .ok (.ldc2_w 114, 3) := by decide +kernel
theorem dL_labels_70 : decode cL_labels 70 = .ok (.aload_n 0, 1) := by decide +kernel
theorem dL_labels_71 : decode cL_labels 71 = .ok (.iload_n 3, 1) := by decide +kernel
theorem dL_labels_72 : decode cL_labels 72 = .ok (.iload 4, 2) := by decide +kernel
theorem dL_labels_74 : decode cL_labels 74 = .ok (.invokevirtual 47, 3) := by decide +kernel
theorem dL_labels_77 : decode cL_labels 77 = .ok (.i2l, 1) := by decide +kernel
theorem dL_labels_78 : decode cL_labels 78 = .ok (.lmul, 1) := by decide +kernel
theorem dL_labels_79 : decode cL_labels 79 = .ok (.ladd, 1) := by decide +kernel
theorem dL_labels_80 : decode cL_labels 80 = .ok (.aload_n 0, 1) := by decide +kernel
theorem dL_labels_81 : decode cL_labels 81 = .ok (.iload_n 3, 1) := by decide +kernel
theorem dL_labels_82 : decode cL_labels 82 = .ok (.iload 4, 2) := by decide +kernel
theorem dL_labels_84 : decode cL_labels 84 = .ok (.invokevirtual 50, 3) := by decide +kernel
theorem dL_labels_87 : decode cL_labels 87 = .ok (.i2l, 1) := by decide +kernel
theorem dL_labels_88 : decode cL_labels 88 = .ok (.ladd, 1) := by decide +kernel
theorem dL_labels_89 : decode cL_labels 89 = .ok (.lstore_n 1, 1) := by decide +kernel
theorem dL_labels_90 : decode cL_labels 90 = .ok (.iinc 4 1, 3) := by decide +kernel
theorem dL_labels_93 : decode cL_labels 93 = .ok (.goto (-54), 3) := by decide +kernel
theorem dL_labels_96 : decode cL_labels 96 = .ok (.iinc 3 1, 3) := by decide +kernel
theorem dL_labels_99 : decode cL_labels 99 = .ok (.goto (-91), 3) := by decide +kernel
theorem dL_labels_102 : decode cL_labels 102 = .ok (.lload_n 1, 1) := by decide +kernel
theorem dL_labels_103 : decode cL_labels 103 = .ok (.lreturn, 1) := by decide +kernel
