set_option maxRecDepth 20000 in
theorem ggL_isRefused_X3_vertices : GoodIn wsL_isRefused wsX3_vertices := goodIn_r _ [9, 10, 11, 12, 13, 14, 15, 16, 338, 339, 340, 341, 342, 343, 344, 345, 346] (by decide +kernel) (by decide +kernel)
set_option maxRecDepth 20000 in
theorem gL_isRefused_X3_vertices : GoodIn wsL_isRefused (wsV RL 71 RX3 yX3_vertices wsX3_vertices) := goodIn_app (goodIn_of _ (by decide +kernel)) ggL_isRefused_X3_vertices
set_option maxRecDepth 20000 in
theorem ggL_isRefused_L_graph : GoodIn wsL_isRefused wsL_graph := goodIn_ca (goodIn_r _ [20, 21, 22, 1, 23, 24, 25, 5, 6, 7, 8, 9, 10, 11, 12, 13, 14, 15, 16, 26, 27, 28, 29, 30, 31, 32, 33, 34, 35, 36, 37, 38, 39, 40, 41, 42, 43, 44, 45, 46, 47, 48, 49, 50, 51, 52, 53, 54, 55, 56, 57, 58, 59, 60, 61, 62, 63, 64, 65, 66, 67, 68, 69, 70, 71, 72, 73, 74, 75, 76, 77, 78, 79, 80, 338, 339, 340, 341, 342, 343, 344, 345, 346, 347, 348, 349, 350, 351, 352, 353, 354, 355, 356] (by decide +kernel) (by decide +kernel)) (goodIn_sub (fun _ h => List.mem_cons_of_mem _ (List.mem_append_left _ (List.mem_append_left _ (List.mem_append_right _ h)))) (by decide +kernel))
set_option maxRecDepth 20000 in
theorem gL_isRefused_L_graph : GoodIn wsL_isRefused (va_wsS RL 133 yL_graph wsL_graph) := goodIn_app (goodIn_of _ (by decide +kernel)) ggL_isRefused_L_graph
set_option maxRecDepth 20000 in
theorem ggL_isRefused_L_labels : GoodIn wsL_isRefused wsL_labels := goodIn_ca (goodIn_ca (goodIn_ca (goodIn_r _ [83, 84, 85, 86, 87, 88, 89, 90, 8, 91, 39, 92, 93, 94, 95, 96, 97, 98, 99, 100, 101, 102, 79, 80, 103, 104, 105, 106, 107, 108, 109, 5, 6, 7, 9, 10, 11, 12, 13, 14, 15, 16, 35, 36, 37, 38, 110, 111, 112, 113, 114, 115, 116, 117, 118, 119, 120, 121, 122, 123, 64, 65, 66, 67, 68, 69, 70, 71, 72, 73, 124, 125, 126, 127, 128, 129, 130, 131, 132, 133, 134, 135, 136, 137, 138, 139, 140, 141, 142, 143, 144, 145, 146, 147, 148, 149, 150, 151, 152, 153, 154, 155, 156, 157, 158, 159, 160, 161, 162, 163, 164, 165, 166, 167, 168, 169, 170, 171, 172, 173, 174, 175, 176, 338, 339, 340, 341, 342, 343, 357, 358, 359, 360, 361, 362, 344, 345, 346] (by decide +kernel) (by decide +kernel)) (goodIn_sub (fun _ h => List.mem_cons_of_mem _ (List.mem_append_left _ (List.mem_append_right _ h))) (by decide +kernel))) (goodIn_sub (fun _ h => List.mem_cons_of_mem _ (List.mem_append_left _ (List.mem_append_left _ (List.mem_append_right _ h)))) (by decide +kernel))) (goodIn_sub (fun _ h => List.mem_cons_of_mem _ (List.mem_append_right _ h)) (by decide +kernel))
set_option maxRecDepth 20000 in
theorem gL_isRefused_L_labels : GoodIn wsL_isRefused (va_wsS RL 137 yL_labels wsL_labels) := goodIn_app (goodIn_of _ (by decide +kernel)) ggL_isRefused_L_labels
set_option maxRecDepth 20000 in
theorem ggL_isRefused_L_addVertices : GoodIn wsL_isRefused wsL_addVertices := goodIn_ca (goodIn_ca (goodIn_r _ [179, 180, 181, 182, 183, 184, 8, 185, 142, 143, 10, 186, 187, 188, 189, 122, 123, 11, 12, 13, 14, 15, 16, 190, 191, 192, 193, 39, 92, 194, 195, 196, 197, 198, 199, 200, 96, 201, 202, 128, 154, 79, 80, 124, 125, 126, 127, 203, 204, 205, 206, 102, 163, 176, 338, 339, 340, 341, 342, 343, 344, 345, 346, 357, 358, 359, 360, 361, 362] (by decide +kernel) (by decide +kernel)) (goodIn_sub (fun _ h => List.mem_cons_of_mem _ (List.mem_append_right _ h)) (by decide +kernel))) (goodIn_sub (fun _ h => List.mem_cons_of_mem _ (List.mem_append_left _ (List.mem_append_right _ h))) (by decide +kernel))
set_option maxRecDepth 20000 in
theorem gL_isRefused_L_addVertices : GoodIn wsL_isRefused (va_wsS RL 140 yL_addVertices wsL_addVertices) := goodIn_app (goodIn_of _ (by decide +kernel)) ggL_isRefused_L_addVertices
set_option maxRecDepth 20000 in
theorem ggL_isRefused_L_addEdge : GoodIn wsL_isRefused wsL_addEdge := goodIn_ca (goodIn_ca (goodIn_r _ [216, 217, 181, 218, 219, 220, 8, 221, 122, 123, 10, 39, 44, 64, 65, 66, 67, 68, 69, 70, 71, 72, 14, 73, 16, 222, 223, 224, 225, 79, 80, 226, 75, 76, 77, 78, 148, 149, 227, 228, 229, 230, 34, 231, 232, 233, 48, 234, 235, 236, 237, 238, 239, 240, 241, 50, 59, 242, 12, 13, 15, 243, 160, 161, 96, 162, 163, 164, 165, 166, 167, 102, 244, 245, 246, 247, 248, 249, 250, 251, 252, 253, 254, 255, 256, 257, 258, 259, 260, 261, 262, 263, 264, 265, 266, 151, 152, 153, 154, 267, 268, 269, 270, 271, 272, 273, 274, 275, 204, 205, 206, 176, 276, 338, 339, 340, 341, 342, 343, 344, 345, 346, 347, 348, 349, 350, 351, 352, 353, 354, 355, 356, 357, 358, 359, 360, 361, 362] (by decide +kernel) (by decide +kernel)) (goodIn_sub (fun _ h => List.mem_cons_of_mem _ (List.mem_append_left _ (List.mem_append_right _ h))) (by decide +kernel))) (goodIn_sub (fun _ h => List.mem_cons_of_mem _ (List.mem_append_left _ (List.mem_append_left _ (List.mem_append_right _ h)))) (by decide +kernel))
set_option maxRecDepth 20000 in
theorem gL_isRefused_L_addEdge : GoodIn wsL_isRefused (va_wsS RL 146 yL_addEdge wsL_addEdge) := goodIn_app (goodIn_of _ (by decide +kernel)) ggL_isRefused_L_addEdge
set_option maxRecDepth 20000 in
theorem ggL_isRefused_L_neighbours : GoodIn wsL_isRefused wsL_neighbours := goodIn_ca (goodIn_r _ [279, 217, 2, 60, 61, 62, 8, 63, 10, 64, 65, 66, 67, 68, 69, 70, 71, 72, 14, 73, 16, 74, 75, 76, 77, 78, 79, 80, 338, 339, 340, 341, 342, 343, 344, 345, 346] (by decide +kernel) (by decide +kernel)) (goodIn_sub (fun _ h => List.mem_cons_of_mem _ (List.mem_append_left _ (List.mem_append_left _ (List.mem_append_right _ h)))) (by decide +kernel))
set_option maxRecDepth 20000 in
theorem gL_isRefused_L_neighbours : GoodIn wsL_isRefused (va_wsS RL 148 yL_neighbours wsL_neighbours) := goodIn_app (goodIn_of _ (by decide +kernel)) ggL_isRefused_L_neighbours
set_option maxRecDepth 20000 in
theorem ggL_isRefused_L_pathVertex : GoodIn wsL_isRefused wsL_pathVertex := goodIn_ca (goodIn_ca (goodIn_ca (goodIn_r _ [282, 217, 181, 180, 283, 284, 285, 8, 286, 142, 143, 92, 118, 119, 120, 121, 122, 123, 39, 64, 65, 66, 67, 68, 69, 10, 70, 71, 72, 14, 73, 16, 287, 288, 289, 96, 290, 291, 292, 293, 294, 267, 268, 269, 270, 102, 79, 80, 148, 149, 271, 272, 273, 274, 163, 295, 296, 297, 298, 266, 151, 152, 153, 154, 299, 173, 174, 175, 176, 164, 165, 166, 167, 300, 301, 302, 303, 338, 339, 340, 341, 342, 343, 344, 345, 346, 357, 358, 359, 360, 361, 362] (by decide +kernel) (by decide +kernel)) (goodIn_sub (fun _ h => List.mem_cons_of_mem _ (List.mem_append_right _ h)) (by decide +kernel))) (goodIn_sub (fun _ h => List.mem_cons_of_mem _ (List.mem_append_left _ (List.mem_append_right _ h))) (by decide +kernel))) (goodIn_sub (fun _ h => List.mem_cons_of_mem _ (List.mem_append_left _ (List.mem_append_left _ (List.mem_append_right _ h)))) (by decide +kernel))
set_option maxRecDepth 20000 in
theorem gL_isRefused_L_pathVertex : GoodIn wsL_isRefused (va_wsS RL 131 yL_pathVertex wsL_pathVertex) := goodIn_app (goodIn_of _ (by decide +kernel)) ggL_isRefused_L_pathVertex
set_option maxRecDepth 20000 in
theorem ggL_isRefused_L_within : GoodIn wsL_isRefused wsL_within := goodIn_ca (goodIn_ca (goodIn_ca (goodIn_r _ [306, 217, 181, 180, 2, 4, 3, 307, 308, 309, 8, 310, 142, 143, 10, 92, 114, 115, 116, 117, 118, 119, 120, 121, 122, 123, 39, 64, 65, 66, 67, 68, 69, 70, 71, 72, 14, 73, 16, 11, 12, 13, 15, 311, 312, 313, 96, 314, 291, 292, 293, 294, 267, 268, 269, 270, 102, 79, 80, 148, 149, 271, 272, 273, 274, 163, 338, 339, 340, 341, 342, 343, 344, 345, 346, 357, 358, 359, 360, 361, 362] (by decide +kernel) (by decide +kernel)) (goodIn_sub (fun _ h => List.mem_cons_of_mem _ (List.mem_append_right _ h)) (by decide +kernel))) (goodIn_sub (fun _ h => List.mem_cons_of_mem _ (List.mem_append_left _ (List.mem_append_right _ h))) (by decide +kernel))) (goodIn_sub (fun _ h => List.mem_cons_of_mem _ (List.mem_append_left _ (List.mem_append_left _ (List.mem_append_right _ h)))) (by decide +kernel))
set_option maxRecDepth 20000 in
theorem gL_isRefused_L_within : GoodIn wsL_isRefused (va_wsS RL 124 yL_within wsL_within) := goodIn_app (goodIn_of _ (by decide +kernel)) ggL_isRefused_L_within
set_option maxRecDepth 20000 in
theorem ggL_isRefused_X3_isBuilt : GoodIn wsL_isRefused wsX3_isBuilt := goodIn_r _ [38, 39, 338, 339, 340, 341, 342, 343] (by decide +kernel) (by decide +kernel)
set_option maxRecDepth 20000 in
theorem gL_isRefused_X3_isBuilt : GoodIn wsL_isRefused (wsV RL 87 RX3 yX3_isBuilt wsX3_isBuilt) := goodIn_app (goodIn_of _ (by decide +kernel)) ggL_isRefused_X3_isBuilt
set_option maxRecDepth 20000 in
theorem ggL_isRefused_X3_entries : GoodIn wsL_isRefused wsX3_entries := goodIn_r _ [91, 39, 92, 93, 94, 95, 96, 97, 98, 99, 100, 101, 102, 79, 8, 80, 103, 104, 105, 106, 107, 108, 109, 338, 339, 340, 341, 342, 343, 357, 358, 359, 360, 361, 362] (by decide +kernel) (by decide +kernel)
set_option maxRecDepth 20000 in
theorem gL_isRefused_X3_entries : GoodIn wsL_isRefused (wsV RL 105 RX3 yX3_entries wsX3_entries) := goodIn_app (goodIn_of _ (by decide +kernel)) ggL_isRefused_X3_entries
set_option maxRecDepth 20000 in
theorem ggL_isRefused_L_of : GoodIn wsL_isRefused wsL_of := goodIn_ca (goodIn_ca (goodIn_r _ [317, 217, 181, 110, 111, 112, 8, 113, 92, 114, 115, 116, 117, 118, 119, 120, 121, 122, 123, 39, 64, 65, 66, 67, 68, 69, 10, 70, 71, 72, 14, 73, 16, 124, 125, 126, 96, 127, 128, 79, 80, 129, 130, 131, 132, 133, 99, 100, 101, 102, 103, 104, 105, 106, 107, 108, 109, 318, 319, 320, 321, 311, 312, 313, 314, 291, 292, 293, 294, 267, 268, 269, 270, 148, 149, 271, 272, 273, 274, 163, 322, 323, 324, 325, 326, 150, 151, 152, 153, 154, 327, 328, 329, 330, 331, 332, 333, 334, 11, 12, 13, 15, 338, 339, 340, 341, 342, 343, 344, 345, 346, 357, 358, 359, 360, 361, 362] (by decide +kernel) (by decide +kernel)) (goodIn_sub (fun _ h => List.mem_cons_of_mem _ (List.mem_append_left _ (List.mem_append_right _ h))) (by decide +kernel))) (goodIn_sub (fun _ h => List.mem_cons_of_mem _ (List.mem_append_left _ (List.mem_append_left _ (List.mem_append_right _ h)))) (by decide +kernel))
set_option maxRecDepth 20000 in
theorem gL_isRefused_L_of : GoodIn wsL_isRefused (va_wsS RL 151 yL_of wsL_of) := goodIn_app (goodIn_of _ (by decide +kernel)) ggL_isRefused_L_of
set_option maxRecDepth 20000 in
theorem ggL_isRefused_L_entry : GoodIn wsL_isRefused wsL_entry := goodIn_ca (goodIn_ca (goodIn_ca (goodIn_r _ [337, 217, 181, 180, 134, 135, 136, 8, 137, 92, 114, 115, 116, 117, 118, 119, 120, 121, 122, 123, 39, 64, 65, 66, 67, 68, 69, 10, 70, 71, 72, 14, 73, 16, 138, 139, 140, 141, 142, 143, 133, 99, 100, 96, 101, 102, 79, 80, 103, 104, 105, 106, 107, 108, 109, 144, 145, 146, 147, 148, 149, 150, 151, 152, 153, 154, 155, 156, 157, 158, 159, 160, 161, 162, 163, 164, 165, 166, 167, 168, 169, 170, 171, 172, 173, 174, 175, 176, 338, 339, 340, 341, 342, 343, 344, 345, 346, 357, 358, 359, 360, 361, 362] (by decide +kernel) (by decide +kernel)) (goodIn_sub (fun _ h => List.mem_cons_of_mem _ (List.mem_append_left _ (List.mem_append_right _ h))) (by decide +kernel))) (goodIn_sub (fun _ h => List.mem_cons_of_mem _ (List.mem_append_left _ (List.mem_append_left _ (List.mem_append_right _ h)))) (by decide +kernel))) (goodIn_sub (fun _ h => List.mem_cons_of_mem _ (List.mem_append_right _ h)) (by decide +kernel))
set_option maxRecDepth 20000 in
theorem gL_isRefused_L_entry : GoodIn wsL_isRefused (va_wsS RL 120 yL_entry wsL_entry) := goodIn_app (goodIn_of _ (by decide +kernel)) ggL_isRefused_L_entry
theorem dL_isRefused_0 : decode cL_isRefused 0 = .ok (.iload_n 1, 1) := by decide +kernel
theorem dL_isRefused_1 : decode cL_isRefused 1 = .ok (.iconst 2, 1) := by decide +kernel
theorem dL_isRefused_2 : decode cL_isRefused 2 = .ok (.irem, 1) := by decide +kernel
theorem dL_isRefused_3 : decode cL_isRefused 3 = .ok (.ifCond .ne 7, 3) := by decide +kernel
theorem dL_isRefused_6 : decode cL_isRefused 6 = .ok (.iconst 1, 1) := by decide +kernel
theorem dL_isRefused_7 : decode cL_isRefused 7 = .ok (.goto 4, 3) := by decide +kernel
theorem dL_isRefused_10 : decode cL_isRefused 10 = .ok (.iconst 0, 1) := by decide +kernel
theorem dL_isRefused_11 : decode cL_isRefused 11 = .ok (.istore_n 2, 1) := by decide +kernel
theorem dL_isRefused_12 : decode cL_isRefused 12 = .ok (.iload_n 2, 1) := by decide +kernel
theorem dL_isRefused_13 : decode cL_isRefused 13 = .ok (.ifCond .eq 12, 3) := by decide +kernel
theorem dL_isRefused_16 : decode cL_isRefused 16 = .ok (.iconst (-1), 1) := by decide +kernel
theorem dL_isRefused_17 : decode cL_isRefused 17 = .ok (.iload_n 1, 1) := by decide +kernel
theorem dL_isRefused_18 : decode cL_isRefused 18 = .ok (.bipush 80, 2) := by decide +kernel
theorem dL_isRefused_20 : decode cL_isRefused 20 = .ok (.irem, 1) := by decide +kernel
theorem dL_isRefused_21 : decode cL_isRefused 21 = .ok (.isub, 1) := by decide +kernel
theorem dL_isRefused_22 : decode cL_isRefused 22 = .ok (.goto 12, 3) := by decide +kernel
theorem dL_isRefused_25 : decode cL_isRefused 25 = .ok (.aload_n 0, 1) := by decide +kernel
theorem dL_isRefused_26 : decode cL_isRefused 26 = .ok (.invokevirtual 71, 3) := by decide +kernel
theorem dL_isRefused_29 : decode cL_isRefused 29 = .ok (.iload_n 1, 1) := by decide +kernel
theorem dL_isRefused_30 : decode cL_isRefused 30 = .ok (.bipush 80, 2) := by decide +kernel
theorem dL_isRefused_32 : decode cL_isRefused 32 = .ok (.irem, 1) := by decide +kernel
theorem dL_isRefused_33 : decode cL_isRefused 33 = .ok (.iadd, 1) := by decide +kernel
theorem dL_isRefused_34 : decode cL_isRefused 34 = .ok (.istore_n 3, 1) := by decide +kernel
theorem dL_isRefused_35 : decode cL_isRefused 35 = .ok (.aload_n 0, 1) := by decide +kernel
theorem dL_isRefused_36 : decode cL_isRefused 36 = .ok (.invokestatic 133, 3) := by decide +kernel
theorem dL_isRefused_39 : decode cL_isRefused 39 = .ok (.ldc2_w 91, 3) := by decide +kernel
theorem dL_isRefused_42 : decode cL_isRefused 42 = .ok (.aload_n 0, 1) := by decide +kernel
theorem dL_isRefused_43 : decode cL_isRefused 43 = .ok (.invokestatic 137, 3) := by decide +kernel
theorem dL_isRefused_46 : decode cL_isRefused 46 = .ok (.lmul, 1) := by decide +kernel
theorem dL_isRefused_47 : decode cL_isRefused 47 = .ok (.ladd, 1) := by decide +kernel
theorem dL_isRefused_48 : decode cL_isRefused 48 = .ok (.lstore 4, 2) := by decide +kernel
theorem dL_isRefused_50 : decode cL_isRefused 50 = .ok (.aload_n 0, 1) := by decide +kernel
theorem dL_isRefused_51 : decode cL_isRefused 51 = .ok (.iload_n 2, 1) := by decide +kernel
theorem dL_isRefused_52 : decode cL_isRefused 52 = .ok (.ifCond .eq 7, 3) := by decide +kernel
theorem dL_isRefused_55 : decode cL_isRefused 55 = .ok (.iconst 0, 1) := by decide +kernel
theorem dL_isRefused_56 : decode cL_isRefused 56 = .ok (.goto 10, 3) := by decide +kernel
theorem dL_isRefused_59 : decode cL_isRefused 59 = .ok (.bipush 49, 2) := by decide +kernel
theorem dL_isRefused_61 : decode cL_isRefused 61 = .ok (.iload_n 1, 1) := by decide +kernel
theorem dL_isRefused_62 : decode cL_isRefused 62 = .ok (.bipush 80, 2) := by decide +kernel
theorem dL_isRefused_64 : decode cL_isRefused 64 = .ok (.irem, 1) := by decide +kernel
theorem dL_isRefused_65 : decode cL_isRefused 65 = .ok (.iadd, 1) := by decide +kernel
theorem dL_isRefused_66 : decode cL_isRefused 66 = .ok (.invokestatic 140, 3) := by decide +kernel
theorem dL_isRefused_69 : decode cL_isRefused 69 = .ok (.bipush (-4), 2) := by decide +kernel
theorem dL_isRefused_71 : decode cL_isRefused 71 = .ok (.if_icmp .ne 116, 3) := by decide +kernel
theorem dL_isRefused_74 : decode cL_isRefused 74 = .ok (.aload_n 0, 1) := by decide +kernel
theorem dL_isRefused_75 : decode cL_isRefused 75 = .ok (.invokevirtual 71, 3) := by decide +kernel
theorem dL_isRefused_78 : decode cL_isRefused 78 = .ok (.ifCond .eq 14, 3) := by decide +kernel
theorem dL_isRefused_81 : decode cL_isRefused 81 = .ok (.aload_n 0, 1) := by decide +kernel
theorem dL_isRefused_82 : decode cL_isRefused 82 = .ok (.bipush 48, 2) := by decide +kernel
theorem dL_isRefused_84 : decode cL_isRefused 84 = .ok (.invokestatic 140, 3) := by decide +kernel
theorem dL_isRefused_87 : decode cL_isRefused 87 = .ok (.bipush (-5), 2) := by decide +kernel
theorem dL_isRefused_89 : decode cL_isRefused 89 = .ok (.if_icmp .ne 98, 3) := by decide +kernel
theorem dL_isRefused_92 : decode cL_isRefused 92 = .ok (.aload_n 0, 1) := by decide +kernel
theorem dL_isRefused_93 : decode cL_isRefused 93 = .ok (.invokevirtual 71, 3) := by decide +kernel
theorem dL_isRefused_96 : decode cL_isRefused 96 = .ok (.bipush 48, 2) := by decide +kernel
theorem dL_isRefused_98 : decode cL_isRefused 98 = .ok (.if_icmp .lt 12, 3) := by decide +kernel
theorem dL_isRefused_101 : decode cL_isRefused 101 = .ok (.aload_n 0, 1) := by decide +kernel
theorem dL_isRefused_102 : decode cL_isRefused 102 = .ok (.invokestatic 143, 3) := by decide +kernel
theorem dL_isRefused_105 : decode cL_isRefused 105 = .ok (.bipush (-5), 2) := by decide +kernel
theorem dL_isRefused_107 : decode cL_isRefused 107 = .ok (.if_icmp .ne 80, 3) := by decide +kernel
theorem dL_isRefused_110 : decode cL_isRefused 110 = .ok (.aload_n 0, 1) := by decide +kernel
theorem dL_isRefused_111 : decode cL_isRefused 111 = .ok (.iload_n 3, 1) := by decide +kernel
theorem dL_isRefused_112 : decode cL_isRefused 112 = .ok (.iload_n 3, 1) := by decide +kernel
theorem dL_isRefused_113 : decode cL_isRefused 113 = .ok (.invokestatic 146, 3) := by decide +kernel
theorem dL_isRefused_116 : decode cL_isRefused 116 = .ok (.bipush (-3), 2) := by decide +kernel
theorem dL_isRefused_118 : decode cL_isRefused 118 = .ok (.if_icmp .ne 69, 3) := by decide +kernel
theorem dL_isRefused_121 : decode cL_isRefused 121 = .ok (.aload_n 0, 1) := by decide +kernel
theorem dL_isRefused_122 : decode cL_isRefused 122 = .ok (.iload_n 3, 1) := by decide +kernel
theorem dL_isRefused_123 : decode cL_isRefused 123 = .ok (.iconst 0, 1) := by decide +kernel
theorem dL_isRefused_124 : decode cL_isRefused 124 = .ok (.invokestatic 146, 3) := by decide +kernel
theorem dL_isRefused_127 : decode cL_isRefused 127 = .ok (.bipush (-3), 2) := by decide +kernel
theorem dL_isRefused_129 : decode cL_isRefused 129 = .ok (.if_icmp .ne 58, 3) := by decide +kernel
theorem dL_isRefused_132 : decode cL_isRefused 132 = .ok (.aload_n 0, 1) := by decide +kernel
theorem dL_isRefused_133 : decode cL_isRefused 133 = .ok (.iload_n 3, 1) := by decide +kernel
theorem dL_isRefused_134 : decode cL_isRefused 134 = .ok (.invokestatic 148, 3) := by decide +kernel
theorem dL_isRefused_137 : decode cL_isRefused 137 = .ok (.ldc2_w 61, 3) := by decide +kernel
theorem dL_isRefused_140 : decode cL_isRefused 140 = .ok (.lcmp, 1) := by decide +kernel
theorem dL_isRefused_141 : decode cL_isRefused 141 = .ok (.ifCond .ne 46, 3) := by decide +kernel
theorem dL_isRefused_144 : decode cL_isRefused 144 = .ok (.aload_n 0, 1) := by decide +kernel
theorem dL_isRefused_145 : decode cL_isRefused 145 = .ok (.iconst 0, 1) := by decide +kernel
theorem dL_isRefused_146 : decode cL_isRefused 146 = .ok (.iload_n 3, 1) := by decide +kernel
theorem dL_isRefused_147 : decode cL_isRefused 147 = .ok (.iconst (-1), 1) := by decide +kernel
theorem dL_isRefused_148 : decode cL_isRefused 148 = .ok (.invokestatic 131, 3) := by decide +kernel
theorem dL_isRefused_151 : decode cL_isRefused 151 = .ok (.bipush (-3), 2) := by decide +kernel
theorem dL_isRefused_153 : decode cL_isRefused 153 = .ok (.if_icmp .ne 34, 3) := by decide +kernel
theorem dL_isRefused_156 : decode cL_isRefused 156 = .ok (.aload_n 0, 1) := by decide +kernel
theorem dL_isRefused_157 : decode cL_isRefused 157 = .ok (.iload_n 3, 1) := by decide +kernel
theorem dL_isRefused_158 : decode cL_isRefused 158 = .ok (.iconst (-1), 1) := by decide +kernel
theorem dL_isRefused_159 : decode cL_isRefused 159 = .ok (.invokestatic 124, 3) := by decide +kernel
theorem dL_isRefused_162 : decode cL_isRefused 162 = .ok (.ldc2_w 61, 3) := by decide +kernel
theorem dL_isRefused_165 : decode cL_isRefused 165 = .ok (.lcmp, 1) := by decide +kernel
theorem dL_isRefused_166 : decode cL_isRefused 166 = .ok (.ifCond .ne 21, 3) := by decide +kernel
theorem dL_isRefused_169 : decode cL_isRefused 169 = .ok (.aload_n 0, 1) := by decide +kernel
theorem dL_isRefused_170 : decode cL_isRefused 170 = .ok (.invokevirtual 87, 3) := by decide +kernel
theorem dL_isRefused_173 : decode cL_isRefused 173 = .ok (.ifCond .ne 10, 3) := by decide +kernel
theorem dL_isRefused_176 : decode cL_isRefused 176 = .ok (.aload_n 0, 1) := by decide +kernel
theorem dL_isRefused_177 : decode cL_isRefused 177 = .ok (.invokevirtual 105, 3) := by decide +kernel
theorem dL_isRefused_180 : decode cL_isRefused 180 = .ok (.ifCond .ne 7, 3) := by decide +kernel
theorem dL_isRefused_183 : decode cL_isRefused 183 = .ok (.iconst 1, 1) := by decide +kernel
theorem dL_isRefused_184 : decode cL_isRefused 184 = .ok (.goto 4, 3) := by decide +kernel
theorem dL_isRefused_187 : decode cL_isRefused 187 = .ok (.iconst 0, 1) := by decide +kernel
theorem dL_isRefused_188 : decode cL_isRefused 188 = .ok (.istore 6, 2) := by decide +kernel
theorem dL_isRefused_190 : decode cL_isRefused 190 = .ok (.iconst 0, 1) := by decide +kernel
theorem dL_isRefused_191 : decode cL_isRefused 191 = .ok (.istore 7, 2) := by decide +kernel
theorem dL_isRefused_193 : decode cL_isRefused 193 = .ok (.iload 7, 2) := by decide +kernel
theorem dL_isRefused_195 : decode cL_isRefused 195 = .ok (.iconst 5, 1) := by decide +kernel
theorem dL_isRefused_196 : decode cL_isRefused 196 = .ok (.if_icmp .ge 53, 3) := by decide +kernel
theorem dL_isRefused_199 : decode cL_isRefused 199 = .ok (.iload 6, 2) := by decide +kernel
theorem dL_isRefused_201 : decode cL_isRefused 201 = .ok (.ifCond .eq 48, 3) := by decide +kernel
theorem dL_isRefused_204 : decode cL_isRefused 204 = .ok (.aload_n 0, 1) := by decide +kernel
theorem dL_isRefused_205 : decode cL_isRefused 205 = .ok (.iload 7, 2) := by decide +kernel
theorem dL_isRefused_207 : decode cL_isRefused 207 = .ok (.iload_n 3, 1) := by decide +kernel
theorem dL_isRefused_208 : decode cL_isRefused 208 = .ok (.iconst 0, 1) := by decide +kernel
theorem dL_isRefused_209 : decode cL_isRefused 209 = .ok (.invokestatic 151, 3) := by decide +kernel
theorem dL_isRefused_212 : decode cL_isRefused 212 = .ok (.bipush (-3), 2) := by decide +kernel
theorem dL_isRefused_214 : decode cL_isRefused 214 = .ok (.if_icmp .ne 26, 3) := by decide +kernel
theorem dL_isRefused_217 : decode cL_isRefused 217 = .ok (.iload 7, 2) := by decide +kernel
theorem dL_isRefused_219 : decode cL_isRefused 219 = .ok (.iconst 2, 1) := by decide +kernel
theorem dL_isRefused_220 : decode cL_isRefused 220 = .ok (.if_icmp .gt 16, 3) := by decide +kernel
theorem dL_isRefused_223 : decode cL_isRefused 223 = .ok (.aload_n 0, 1) := by decide +kernel
theorem dL_isRefused_224 : decode cL_isRefused 224 = .ok (.iload 7, 2) := by decide +kernel
theorem dL_isRefused_226 : decode cL_isRefused 226 = .ok (.iload_n 3, 1) := by decide +kernel
theorem dL_isRefused_227 : decode cL_isRefused 227 = .ok (.iconst (-1), 1) := by decide +kernel
theorem dL_isRefused_228 : decode cL_isRefused 228 = .ok (.invokestatic 120, 3) := by decide +kernel
theorem dL_isRefused_231 : decode cL_isRefused 231 = .ok (.bipush (-3), 2) := by decide +kernel
theorem dL_isRefused_233 : decode cL_isRefused 233 = .ok (.if_icmp .ne 7, 3) := by decide +kernel
theorem dL_isRefused_236 : decode cL_isRefused 236 = .ok (.iconst 1, 1) := by decide +kernel
theorem dL_isRefused_237 : decode cL_isRefused 237 = .ok (.goto 4, 3) := by decide +kernel
theorem dL_isRefused_240 : decode cL_isRefused 240 = .ok (.iconst 0, 1) := by decide +kernel
theorem dL_isRefused_241 : decode cL_isRefused 241 = .ok (.istore 6, 2) := by decide +kernel
theorem dL_isRefused_243 : decode cL_isRefused 243 = .ok (.iinc 7 1, 3) := by decide +kernel
theorem dL_isRefused_246 : decode cL_isRefused 246 = .ok (.goto (-53), 3) := by decide +kernel
theorem dL_isRefused_249 : decode cL_isRefused 249 = .ok (.iload 6, 2) := by decide +kernel
theorem dL_isRefused_251 : decode cL_isRefused 251 = .ok (.ifCond .eq 214, 3) := by decide +kernel
theorem dL_isRefused_254 : decode cL_isRefused 254 = .ok (.aload_n 0, 1) := by decide +kernel
theorem dL_isRefused_255 : decode cL_isRefused 255 = .ok (.invokevirtual 71, 3) := by decide +kernel
theorem dL_isRefused_258 : decode cL_isRefused 258 = .ok (.ifCond .le 207, 3) := by decide +kernel
theorem dL_isRefused_261 : decode cL_isRefused 261 = .ok (.iload_n 1, 1) := by decide +kernel
theorem dL_isRefused_262 : decode cL_isRefused 262 = .ok (.iconst 2, 1) := by decide +kernel
theorem dL_isRefused_263 : decode cL_isRefused 263 = .ok (.idiv, 1) := by decide +kernel
theorem dL_isRefused_264 : decode cL_isRefused 264 = .ok (.aload_n 0, 1) := by decide +kernel
theorem dL_isRefused_265 : decode cL_isRefused 265 = .ok (.invokevirtual 71, 3) := by decide +kernel
theorem dL_isRefused_268 : decode cL_isRefused 268 = .ok (.irem, 1) := by decide +kernel
theorem dL_isRefused_269 : decode cL_isRefused 269 = .ok (.istore 7, 2) := by decide +kernel
theorem dL_isRefused_271 : decode cL_isRefused 271 = .ok (.aload_n 0, 1) := by decide +kernel
theorem dL_isRefused_272 : decode cL_isRefused 272 = .ok (.iload 7, 2) := by decide +kernel
theorem dL_isRefused_274 : decode cL_isRefused 274 = .ok (.iload_n 3, 1) := by decide +kernel
theorem dL_isRefused_275 : decode cL_isRefused 275 = .ok (.invokestatic 146, 3) := by decide +kernel
theorem dL_isRefused_278 : decode cL_isRefused 278 = .ok (.bipush (-3), 2) := by decide +kernel
theorem dL_isRefused_280 : decode cL_isRefused 280 = .ok (.if_icmp .ne 113, 3) := by decide +kernel
theorem dL_isRefused_283 : decode cL_isRefused 283 = .ok (.aload_n 0, 1) := by decide +kernel
theorem dL_isRefused_284 : decode cL_isRefused 284 = .ok (.iload 7, 2) := by decide +kernel
theorem dL_isRefused_286 : decode cL_isRefused 286 = .ok (.iload 7, 2) := by decide +kernel
theorem dL_isRefused_288 : decode cL_isRefused 288 = .ok (.invokestatic 146, 3) := by decide +kernel
theorem dL_isRefused_291 : decode cL_isRefused 291 = .ok (.bipush (-5), 2) := by decide +kernel
theorem dL_isRefused_293 : decode cL_isRefused 293 = .ok (.if_icmp .ne 100, 3) := by decide +kernel
theorem dL_isRefused_296 : decode cL_isRefused 296 = .ok (.aload_n 0, 1) := by decide +kernel
theorem dL_isRefused_297 : decode cL_isRefused 297 = .ok (.iconst 2, 1) := by decide +kernel
theorem dL_isRefused_298 : decode cL_isRefused 298 = .ok (.iload 7, 2) := by decide +kernel
theorem dL_isRefused_300 : decode cL_isRefused 300 = .ok (.iload_n 3, 1) := by decide +kernel
theorem dL_isRefused_301 : decode cL_isRefused 301 = .ok (.invokestatic 151, 3) := by decide +kernel
theorem dL_isRefused_304 : decode cL_isRefused 304 = .ok (.bipush (-3), 2) := by decide +kernel
theorem dL_isRefused_306 : decode cL_isRefused 306 = .ok (.if_icmp .ne 87, 3) := by decide +kernel
theorem dL_isRefused_309 : decode cL_isRefused 309 = .ok (.aload_n 0, 1) := by decide +kernel
theorem dL_isRefused_310 : decode cL_isRefused 310 = .ok (.iconst 3, 1) := by decide +kernel
theorem dL_isRefused_311 : decode cL_isRefused 311 = .ok (.iload 7, 2) := by decide +kernel
theorem dL_isRefused_313 : decode cL_isRefused 313 = .ok (.iload_n 3, 1) := by decide +kernel
theorem dL_isRefused_314 : decode cL_isRefused 314 = .ok (.invokestatic 151, 3) := by decide +kernel
theorem dL_isRefused_317 : decode cL_isRefused 317 = .ok (.bipush (-3), 2) := by decide +kernel
theorem dL_isRefused_319 : decode cL_isRefused 319 = .ok (.if_icmp .ne 74, 3) := by decide +kernel
theorem dL_isRefused_322 : decode cL_isRefused 322 = .ok (.aload_n 0, 1) := by decide +kernel
theorem dL_isRefused_323 : decode cL_isRefused 323 = .ok (.iload 7, 2) := by decide +kernel
theorem dL_isRefused_325 : decode cL_isRefused 325 = .ok (.iload 7, 2) := by decide +kernel
theorem dL_isRefused_327 : decode cL_isRefused 327 = .ok (.iconst (-1), 1) := by decide +kernel
theorem dL_isRefused_328 : decode cL_isRefused 328 = .ok (.iload_n 1, 1) := by decide +kernel
theorem dL_isRefused_329 : decode cL_isRefused 329 = .ok (.bipush 9, 2) := by decide +kernel
theorem dL_isRefused_331 : decode cL_isRefused 331 = .ok (.irem, 1) := by decide +kernel
theorem dL_isRefused_332 : decode cL_isRefused 332 = .ok (.isub, 1) := by decide +kernel
theorem dL_isRefused_333 : decode cL_isRefused 333 = .ok (.invokestatic 131, 3) := by decide +kernel
theorem dL_isRefused_336 : decode cL_isRefused 336 = .ok (.aload_n 0, 1) := by decide +kernel
theorem dL_isRefused_337 : decode cL_isRefused 337 = .ok (.invokevirtual 87, 3) := by decide +kernel
theorem dL_isRefused_340 : decode cL_isRefused 340 = .ok (.ifCond .eq 8, 3) := by decide +kernel
theorem dL_isRefused_343 : decode cL_isRefused 343 = .ok (.bipush (-4), 2) := by decide +kernel
theorem dL_isRefused_345 : decode cL_isRefused 345 = .ok (.goto 5, 3) := by decide +kernel
theorem dL_isRefused_348 : decode cL_isRefused 348 = .ok (.bipush (-5), 2) := by decide +kernel
theorem dL_isRefused_350 : decode cL_isRefused 350 = .ok (.if_icmp .ne 43, 3) := by decide +kernel
theorem dL_isRefused_353 : decode cL_isRefused 353 = .ok (.aload_n 0, 1) := by decide +kernel
theorem dL_isRefused_354 : decode cL_isRefused 354 = .ok (.iload 7, 2) := by decide +kernel
theorem dL_isRefused_356 : decode cL_isRefused 356 = .ok (.iload_n 2, 1) := by decide +kernel
theorem dL_isRefused_357 : decode cL_isRefused 357 = .ok (.ifCond .eq 7, 3) := by decide +kernel
theorem dL_isRefused_360 : decode cL_isRefused 360 = .ok (.iconst (-1), 1) := by decide +kernel
theorem dL_isRefused_361 : decode cL_isRefused 361 = .ok (.goto 5, 3) := by decide +kernel
theorem dL_isRefused_364 : decode cL_isRefused 364 = .ok (.bipush 48, 2) := by decide +kernel
theorem dL_isRefused_366 : decode cL_isRefused 366 = .ok (.invokestatic 124, 3) := by decide +kernel
theorem dL_isRefused_369 : decode cL_isRefused 369 = .ok (.aload_n 0, 1) := by decide +kernel
theorem dL_isRefused_370 : decode cL_isRefused 370 = .ok (.invokevirtual 87, 3) := by decide +kernel
theorem dL_isRefused_373 : decode cL_isRefused 373 = .ok (.ifCond .eq 9, 3) := by decide +kernel
theorem dL_isRefused_376 : decode cL_isRefused 376 = .ok (.ldc2_w 65, 3) := by decide +kernel
theorem dL_isRefused_379 : decode cL_isRefused 379 = .ok (.goto 6, 3) := by decide +kernel
theorem dL_isRefused_382 : decode cL_isRefused 382 = .ok (.ldc2_w 63, 3) := by decide +kernel
theorem dL_isRefused_385 : decode cL_isRefused 385 = .ok (.lcmp, 1) := by decide +kernel
theorem dL_isRefused_386 : decode cL_isRefused 386 = .ok (.ifCond .ne 7, 3) := by decide +kernel
theorem dL_isRefused_389 : decode cL_isRefused 389 = .ok (.iconst 1, 1) := by decide +kernel
theorem dL_isRefused_390 : decode cL_isRefused 390 = .ok (.goto 4, 3) := by decide +kernel
theorem dL_isRefused_393 : decode cL_isRefused 393 = .ok (.iconst 0, 1) := by decide +kernel
theorem dL_isRefused_394 : decode cL_isRefused 394 = .ok (.istore 6, 2) := by decide +kernel
theorem dL_isRefused_396 : decode cL_isRefused 396 = .ok (.iconst 0, 1) := by decide +kernel
theorem dL_isRefused_397 : decode cL_isRefused 397 = .ok (.istore 8, 2) := by decide +kernel
theorem dL_isRefused_399 : decode cL_isRefused 399 = .ok (.iload 8, 2) := by decide +kernel
theorem dL_isRefused_401 : decode cL_isRefused 401 = .ok (.iconst 5, 1) := by decide +kernel
theorem dL_isRefused_402 : decode cL_isRefused 402 = .ok (.if_icmp .ge 63, 3) := by decide +kernel
theorem dL_isRefused_405 : decode cL_isRefused 405 = .ok (.iload 6, 2) := by decide +kernel
theorem dL_isRefused_407 : decode cL_isRefused 407 = .ok (.ifCond .eq 58, 3) := by decide +kernel
theorem dL_isRefused_410 : decode cL_isRefused 410 = .ok (.aload_n 0, 1) := by decide +kernel
theorem dL_isRefused_411 : decode cL_isRefused 411 = .ok (.invokevirtual 87, 3) := by decide +kernel
theorem dL_isRefused_414 : decode cL_isRefused 414 = .ok (.ifCond .ne 38, 3) := by decide +kernel
theorem dL_isRefused_417 : decode cL_isRefused 417 = .ok (.aload_n 0, 1) := by decide +kernel
theorem dL_isRefused_418 : decode cL_isRefused 418 = .ok (.iload 8, 2) := by decide +kernel
theorem dL_isRefused_420 : decode cL_isRefused 420 = .ok (.iload 7, 2) := by decide +kernel
theorem dL_isRefused_422 : decode cL_isRefused 422 = .ok (.iload 7, 2) := by decide +kernel
theorem dL_isRefused_424 : decode cL_isRefused 424 = .ok (.invokestatic 151, 3) := by decide +kernel
theorem dL_isRefused_427 : decode cL_isRefused 427 = .ok (.bipush (-5), 2) := by decide +kernel
theorem dL_isRefused_429 : decode cL_isRefused 429 = .ok (.if_icmp .ne 27, 3) := by decide +kernel
theorem dL_isRefused_432 : decode cL_isRefused 432 = .ok (.iload 8, 2) := by decide +kernel
theorem dL_isRefused_434 : decode cL_isRefused 434 = .ok (.iconst 2, 1) := by decide +kernel
theorem dL_isRefused_435 : decode cL_isRefused 435 = .ok (.if_icmp .gt 17, 3) := by decide +kernel
theorem dL_isRefused_438 : decode cL_isRefused 438 = .ok (.aload_n 0, 1) := by decide +kernel
theorem dL_isRefused_439 : decode cL_isRefused 439 = .ok (.iload 8, 2) := by decide +kernel
theorem dL_isRefused_441 : decode cL_isRefused 441 = .ok (.iload 7, 2) := by decide +kernel
theorem dL_isRefused_443 : decode cL_isRefused 443 = .ok (.iconst 0, 1) := by decide +kernel
theorem dL_isRefused_444 : decode cL_isRefused 444 = .ok (.invokestatic 120, 3) := by decide +kernel
theorem dL_isRefused_447 : decode cL_isRefused 447 = .ok (.bipush (-5), 2) := by decide +kernel
theorem dL_isRefused_449 : decode cL_isRefused 449 = .ok (.if_icmp .ne 7, 3) := by decide +kernel
theorem dL_isRefused_452 : decode cL_isRefused 452 = .ok (.iconst 1, 1) := by decide +kernel
theorem dL_isRefused_453 : decode cL_isRefused 453 = .ok (.goto 4, 3) := by decide +kernel
theorem dL_isRefused_456 : decode cL_isRefused 456 = .ok (.iconst 0, 1) := by decide +kernel
theorem dL_isRefused_457 : decode cL_isRefused 457 = .ok (.istore 6, 2) := by decide +kernel
theorem dL_isRefused_459 : decode cL_isRefused 459 = .ok (.iinc 8 1, 3) := by decide +kernel
theorem dL_isRefused_462 : decode cL_isRefused 462 = .ok (.goto (-63), 3) := by decide +kernel
theorem dL_isRefused_465 : decode cL_isRefused 465 = .ok (.iload 6, 2) := by decide +kernel
theorem dL_isRefused_467 : decode cL_isRefused 467 = .ok (.ifCond .eq 26, 3) := by decide +kernel
theorem dL_isRefused_470 : decode cL_isRefused 470 = .ok (.aload_n 0, 1) := by decide +kernel
theorem dL_isRefused_471 : decode cL_isRefused 471 = .ok (.invokestatic 133, 3) := by decide +kernel
theorem dL_isRefused_474 : decode cL_isRefused 474 = .ok (.ldc2_w 91, 3) := by decide +kernel
theorem dL_isRefused_477 : decode cL_isRefused 477 = .ok (.aload_n 0, 1) := by decide +kernel
theorem dL_isRefused_478 : decode cL_isRefused 478 = .ok (.invokestatic 137, 3) := by decide +kernel
theorem dL_isRefused_481 : decode cL_isRefused 481 = .ok (.lmul, 1) := by decide +kernel
theorem dL_isRefused_482 : decode cL_isRefused 482 = .ok (.ladd, 1) := by decide +kernel
theorem dL_isRefused_483 : decode cL_isRefused 483 = .ok (.lload 4, 2) := by decide +kernel
theorem dL_isRefused_485 : decode cL_isRefused 485 = .ok (.lcmp, 1) := by decide +kernel
theorem dL_isRefused_486 : decode cL_isRefused 486 = .ok (.ifCond .ne 7, 3) := by decide +kernel
theorem dL_isRefused_489 : decode cL_isRefused 489 = .ok (.iconst 1, 1) := by decide +kernel
theorem dL_isRefused_490 : decode cL_isRefused 490 = .ok (.goto 4, 3) := by decide +kernel
theorem dL_isRefused_493 : decode cL_isRefused 493 = .ok (.iconst 0, 1) := by decide +kernel
theorem dL_isRefused_494 : decode cL_isRefused 494 = .ok (.ireturn, 1) := by decide +kernel
set_option maxRecDepth 20000 in
theorem ggL_isAdded_X3_vertices : GoodIn wsL_isAdded wsX3_vertices := goodIn_r _ [5, 6, 7, 8, 9, 10, 11, 12, 201, 202, 203, 204, 205, 206, 207, 208, 209] (by decide +kernel) (by decide +kernel)
set_option maxRecDepth 20000 in
theorem gL_isAdded_X3_vertices : GoodIn wsL_isAdded (wsV RL 71 RX3 yX3_vertices wsX3_vertices) := goodIn_app (goodIn_of _ (by decide +kernel)) ggL_isAdded_X3_vertices
set_option maxRecDepth 20000 in
theorem ggL_isAdded_X3_entries : GoodIn wsL_isAdded wsX3_entries := goodIn_r _ [16, 17, 18, 19, 20, 21, 22, 23, 24, 25, 26, 27, 28, 29, 4, 30, 31, 32, 33, 34, 35, 36, 37, 201, 202, 203, 204, 205, 206, 210, 211, 212, 213, 214, 215] (by decide +kernel) (by decide +kernel)
set_option maxRecDepth 20000 in
theorem gL_isAdded_X3_entries : GoodIn wsL_isAdded (wsV RL 105 RX3 yX3_entries wsX3_entries) := goodIn_app (goodIn_of _ (by decide +kernel)) ggL_isAdded_X3_entries
set_option maxRecDepth 20000 in
theorem ggL_isAdded_X3_pruned : GoodIn wsL_isAdded wsX3_pruned := goodIn_r _ [41, 42, 43, 44, 45, 46, 47, 48, 201, 202, 203, 204, 205, 206, 216, 217, 218, 219, 220, 221, 222, 223, 224, 225] (by decide +kernel) (by decide +kernel)
set_option maxRecDepth 20000 in
theorem gL_isAdded_X3_pruned : GoodIn wsL_isAdded (wsV RL 95 RX3 yX3_pruned wsX3_pruned) := goodIn_app (goodIn_of _ (by decide +kernel)) ggL_isAdded_X3_pruned
set_option maxRecDepth 20000 in
theorem ggL_isAdded_L_addVertices : GoodIn wsL_isAdded wsL_addVertices := goodIn_ca (goodIn_ca (goodIn_r _ [91, 92, 53, 93, 94, 95, 4, 96, 97, 98, 6, 58, 59, 60, 61, 62, 63, 7, 8, 9, 10, 11, 12, 64, 65, 66, 67, 17, 18, 68, 69, 70, 71, 72, 73, 74, 22, 75, 76, 77, 78, 29, 30, 79, 80, 81, 82, 83, 84, 85, 86, 28, 87, 88, 201, 202, 203, 204, 205, 206, 207, 208, 209, 210, 211, 212, 213, 214, 215] (by decide +kernel) (by decide +kernel)) (goodIn_sub (fun _ h => List.mem_cons_of_mem _ (List.mem_append_left _ (List.mem_append_right _ h))) (by decide +kernel))) (goodIn_sub (fun _ h => List.mem_cons_of_mem _ (List.mem_append_left _ (List.mem_append_left _ (List.mem_append_right _ h)))) (by decide +kernel))
set_option maxRecDepth 20000 in
theorem gL_isAdded_L_addVertices : GoodIn wsL_isAdded (va_wsS RL 140 yL_addVertices wsL_addVertices) := goodIn_app (goodIn_of _ (by decide +kernel)) ggL_isAdded_L_addVertices
set_option maxRecDepth 20000 in
theorem ggL_isAdded_X3_isBuilt : GoodIn wsL_isAdded wsX3_isBuilt := goodIn_r _ [102, 17, 201, 202, 203, 204, 205, 206] (by decide +kernel) (by decide +kernel)
set_option maxRecDepth 20000 in
theorem gL_isAdded_X3_isBuilt : GoodIn wsL_isAdded (wsV RL 87 RX3 yX3_isBuilt wsX3_isBuilt) := goodIn_app (goodIn_of _ (by decide +kernel)) ggL_isAdded_X3_isBuilt
set_option maxRecDepth 20000 in
theorem ggL_isAdded_X3_neighbours : GoodIn wsL_isAdded wsX3_neighbours := goodIn_ca (goodIn_r _ [106, 6, 107, 108, 109, 4, 110, 111, 112, 113, 114, 115, 10, 116, 12, 117, 118, 119, 120, 121, 29, 30, 201, 202, 203, 204, 205, 206, 207, 208, 209] (by decide +kernel) (by decide +kernel)) (goodIn_sub (fun _ h => List.mem_cons_of_mem _ (List.mem_append_right _ h)) (by decide +kernel))
set_option maxRecDepth 20000 in
theorem gL_isAdded_X3_neighbours : GoodIn wsL_isAdded (wsV RL 67 RX3 yX3_neighbours wsX3_neighbours) := goodIn_app (goodIn_of _ (by decide +kernel)) ggL_isAdded_X3_neighbours
theorem dL_isAdded_0 : decode cL_isAdded 0 = .ok (.aload_n 0, 1) := by decide +kernel
theorem dL_isAdded_1 : decode cL_isAdded 1 = .ok (.invokevirtual 71, 3) := by decide +kernel
theorem dL_isAdded_4 : decode cL_isAdded 4 = .ok (.istore_n 2, 1) := by decide +kernel
theorem dL_isAdded_5 : decode cL_isAdded 5 = .ok (.aload_n 0, 1) := by decide +kernel
theorem dL_isAdded_6 : decode cL_isAdded 6 = .ok (.invokevirtual 105, 3) := by decide +kernel
theorem dL_isAdded_9 : decode cL_isAdded 9 = .ok (.istore_n 3, 1) := by decide +kernel
theorem dL_isAdded_10 : decode cL_isAdded 10 = .ok (.aload_n 0, 1) := by decide +kernel
theorem dL_isAdded_11 : decode cL_isAdded 11 = .ok (.invokevirtual 95, 3) := by decide +kernel
theorem dL_isAdded_14 : decode cL_isAdded 14 = .ok (.istore 4, 2) := by decide +kernel
theorem dL_isAdded_16 : decode cL_isAdded 16 = .ok (.iload_n 1, 1) := by decide +kernel
theorem dL_isAdded_17 : decode cL_isAdded 17 = .ok (.iconst 1, 1) := by decide +kernel
theorem dL_isAdded_18 : decode cL_isAdded 18 = .ok (.if_icmp .ne 10, 3) := by decide +kernel
theorem dL_isAdded_21 : decode cL_isAdded 21 = .ok (.aload_n 0, 1) := by decide +kernel
theorem dL_isAdded_22 : decode cL_isAdded 22 = .ok (.invokestatic 143, 3) := by decide +kernel
theorem dL_isAdded_25 : decode cL_isAdded 25 = .ok (.goto 8, 3) := by decide +kernel
theorem dL_isAdded_28 : decode cL_isAdded 28 = .ok (.aload_n 0, 1) := by decide +kernel
theorem dL_isAdded_29 : decode cL_isAdded 29 = .ok (.iload_n 1, 1) := by decide +kernel
theorem dL_isAdded_30 : decode cL_isAdded 30 = .ok (.invokestatic 140, 3) := by decide +kernel
theorem dL_isAdded_33 : decode cL_isAdded 33 = .ok (.istore 5, 2) := by decide +kernel
theorem dL_isAdded_35 : decode cL_isAdded 35 = .ok (.iload_n 2, 1) := by decide +kernel
theorem dL_isAdded_36 : decode cL_isAdded 36 = .ok (.iload_n 1, 1) := by decide +kernel
theorem dL_isAdded_37 : decode cL_isAdded 37 = .ok (.iadd, 1) := by decide +kernel
theorem dL_isAdded_38 : decode cL_isAdded 38 = .ok (.bipush 48, 2) := by decide +kernel
theorem dL_isAdded_40 : decode cL_isAdded 40 = .ok (.if_icmp .le 24, 3) := by decide +kernel
theorem dL_isAdded_43 : decode cL_isAdded 43 = .ok (.iload 5, 2) := by decide +kernel
theorem dL_isAdded_45 : decode cL_isAdded 45 = .ok (.bipush (-5), 2) := by decide +kernel
theorem dL_isAdded_47 : decode cL_isAdded 47 = .ok (.if_icmp .ne 15, 3) := by decide +kernel
theorem dL_isAdded_50 : decode cL_isAdded 50 = .ok (.aload_n 0, 1) := by decide +kernel
theorem dL_isAdded_51 : decode cL_isAdded 51 = .ok (.invokevirtual 71, 3) := by decide +kernel
theorem dL_isAdded_54 : decode cL_isAdded 54 = .ok (.iload_n 2, 1) := by decide +kernel
theorem dL_isAdded_55 : decode cL_isAdded 55 = .ok (.if_icmp .ne 7, 3) := by decide +kernel
theorem dL_isAdded_58 : decode cL_isAdded 58 = .ok (.iconst 1, 1) := by decide +kernel
theorem dL_isAdded_59 : decode cL_isAdded 59 = .ok (.goto 4, 3) := by decide +kernel
theorem dL_isAdded_62 : decode cL_isAdded 62 = .ok (.iconst 0, 1) := by decide +kernel
theorem dL_isAdded_63 : decode cL_isAdded 63 = .ok (.ireturn, 1) := by decide +kernel
theorem dL_isAdded_64 : decode cL_isAdded 64 = .ok (.iload 5, 2) := by decide +kernel
theorem dL_isAdded_66 : decode cL_isAdded 66 = .ok (.iload_n 1, 1) := by decide +kernel
theorem dL_isAdded_67 : decode cL_isAdded 67 = .ok (.iconst 1, 1) := by decide +kernel
theorem dL_isAdded_68 : decode cL_isAdded 68 = .ok (.if_icmp .ne 7, 3) := by decide +kernel
theorem dL_isAdded_71 : decode cL_isAdded 71 = .ok (.iload_n 2, 1) := by decide +kernel
theorem dL_isAdded_72 : decode cL_isAdded 72 = .ok (.goto 6, 3) := by decide +kernel
theorem dL_isAdded_75 : decode cL_isAdded 75 = .ok (.iload_n 2, 1) := by decide +kernel
theorem dL_isAdded_76 : decode cL_isAdded 76 = .ok (.iload_n 1, 1) := by decide +kernel
theorem dL_isAdded_77 : decode cL_isAdded 77 = .ok (.iadd, 1) := by decide +kernel
theorem dL_isAdded_78 : decode cL_isAdded 78 = .ok (.if_icmp .ne 47, 3) := by decide +kernel
theorem dL_isAdded_81 : decode cL_isAdded 81 = .ok (.aload_n 0, 1) := by decide +kernel
theorem dL_isAdded_82 : decode cL_isAdded 82 = .ok (.invokevirtual 71, 3) := by decide +kernel
theorem dL_isAdded_85 : decode cL_isAdded 85 = .ok (.iload_n 2, 1) := by decide +kernel
theorem dL_isAdded_86 : decode cL_isAdded 86 = .ok (.iload_n 1, 1) := by decide +kernel
theorem dL_isAdded_87 : decode cL_isAdded 87 = .ok (.iadd, 1) := by decide +kernel
theorem dL_isAdded_88 : decode cL_isAdded 88 = .ok (.if_icmp .ne 37, 3) := by decide +kernel
theorem dL_isAdded_91 : decode cL_isAdded 91 = .ok (.aload_n 0, 1) := by decide +kernel
theorem dL_isAdded_92 : decode cL_isAdded 92 = .ok (.invokevirtual 95, 3) := by decide +kernel
theorem dL_isAdded_95 : decode cL_isAdded 95 = .ok (.iload 4, 2) := by decide +kernel
theorem dL_isAdded_97 : decode cL_isAdded 97 = .ok (.if_icmp .ne 28, 3) := by decide +kernel
theorem dL_isAdded_100 : decode cL_isAdded 100 = .ok (.aload_n 0, 1) := by decide +kernel
theorem dL_isAdded_101 : decode cL_isAdded 101 = .ok (.invokevirtual 105, 3) := by decide +kernel
theorem dL_isAdded_104 : decode cL_isAdded 104 = .ok (.iload_n 3, 1) := by decide +kernel
theorem dL_isAdded_105 : decode cL_isAdded 105 = .ok (.aload_n 0, 1) := by decide +kernel
theorem dL_isAdded_106 : decode cL_isAdded 106 = .ok (.invokevirtual 87, 3) := by decide +kernel
theorem dL_isAdded_109 : decode cL_isAdded 109 = .ok (.ifCond .eq 7, 3) := by decide +kernel
theorem dL_isAdded_112 : decode cL_isAdded 112 = .ok (.iload_n 1, 1) := by decide +kernel
theorem dL_isAdded_113 : decode cL_isAdded 113 = .ok (.goto 4, 3) := by decide +kernel
theorem dL_isAdded_116 : decode cL_isAdded 116 = .ok (.iconst 0, 1) := by decide +kernel
theorem dL_isAdded_117 : decode cL_isAdded 117 = .ok (.iadd, 1) := by decide +kernel
theorem dL_isAdded_118 : decode cL_isAdded 118 = .ok (.if_icmp .ne 7, 3) := by decide +kernel
theorem dL_isAdded_121 : decode cL_isAdded 121 = .ok (.iconst 1, 1) := by decide +kernel
theorem dL_isAdded_122 : decode cL_isAdded 122 = .ok (.goto 4, 3) := by decide +kernel
theorem dL_isAdded_125 : decode cL_isAdded 125 = .ok (.iconst 0, 1) := by decide +kernel
theorem dL_isAdded_126 : decode cL_isAdded 126 = .ok (.istore 6, 2) := by decide +kernel
theorem dL_isAdded_128 : decode cL_isAdded 128 = .ok (.iload_n 2, 1) := by decide +kernel
theorem dL_isAdded_129 : decode cL_isAdded 129 = .ok (.istore 7, 2) := by decide +kernel
theorem dL_isAdded_131 : decode cL_isAdded 131 = .ok (.iload 7, 2) := by decide +kernel
theorem dL_isAdded_133 : decode cL_isAdded 133 = .ok (.aload_n 0, 1) := by decide +kernel
theorem dL_isAdded_134 : decode cL_isAdded 134 = .ok (.invokevirtual 71, 3) := by decide +kernel
theorem dL_isAdded_137 : decode cL_isAdded 137 = .ok (.if_icmp .ge 102, 3) := by decide +kernel
theorem dL_isAdded_140 : decode cL_isAdded 140 = .ok (.iload 6, 2) := by decide +kernel
theorem dL_isAdded_142 : decode cL_isAdded 142 = .ok (.ifCond .eq 97, 3) := by decide +kernel
theorem dL_isAdded_145 : decode cL_isAdded 145 = .ok (.aload_n 0, 1) := by decide +kernel
theorem dL_isAdded_146 : decode cL_isAdded 146 = .ok (.iload 7, 2) := by decide +kernel
theorem dL_isAdded_148 : decode cL_isAdded 148 = .ok (.invokevirtual 67, 3) := by decide +kernel
theorem dL_isAdded_151 : decode cL_isAdded 151 = .ok (.lconst 0, 1) := by decide +kernel
theorem dL_isAdded_152 : decode cL_isAdded 152 = .ok (.lcmp, 1) := by decide +kernel
theorem dL_isAdded_153 : decode cL_isAdded 153 = .ok (.ifCond .ne 77, 3) := by decide +kernel
theorem dL_isAdded_156 : decode cL_isAdded 156 = .ok (.aload_n 0, 1) := by decide +kernel
theorem dL_isAdded_157 : decode cL_isAdded 157 = .ok (.invokevirtual 87, 3) := by decide +kernel
theorem dL_isAdded_160 : decode cL_isAdded 160 = .ok (.ifCond .eq 66, 3) := by decide +kernel
theorem dL_isAdded_163 : decode cL_isAdded 163 = .ok (.aload_n 0, 1) := by decide +kernel
theorem dL_isAdded_164 : decode cL_isAdded 164 = .ok (.iload 7, 2) := by decide +kernel
theorem dL_isAdded_166 : decode cL_isAdded 166 = .ok (.invokevirtual 29, 3) := by decide +kernel
theorem dL_isAdded_169 : decode cL_isAdded 169 = .ok (.iload 7, 2) := by decide +kernel
theorem dL_isAdded_171 : decode cL_isAdded 171 = .ok (.if_icmp .ne 59, 3) := by decide +kernel
theorem dL_isAdded_174 : decode cL_isAdded 174 = .ok (.aload_n 0, 1) := by decide +kernel
theorem dL_isAdded_175 : decode cL_isAdded 175 = .ok (.iload 7, 2) := by decide +kernel
theorem dL_isAdded_177 : decode cL_isAdded 177 = .ok (.invokevirtual 32, 3) := by decide +kernel
theorem dL_isAdded_180 : decode cL_isAdded 180 = .ok (.iconst 1, 1) := by decide +kernel
theorem dL_isAdded_181 : decode cL_isAdded 181 = .ok (.if_icmp .ne 49, 3) := by decide +kernel
theorem dL_isAdded_184 : decode cL_isAdded 184 = .ok (.aload_n 0, 1) := by decide +kernel
theorem dL_isAdded_185 : decode cL_isAdded 185 = .ok (.iload 7, 2) := by decide +kernel
theorem dL_isAdded_187 : decode cL_isAdded 187 = .ok (.iconst 0, 1) := by decide +kernel
theorem dL_isAdded_188 : decode cL_isAdded 188 = .ok (.invokevirtual 44, 3) := by decide +kernel
theorem dL_isAdded_191 : decode cL_isAdded 191 = .ok (.iload 7, 2) := by decide +kernel
theorem dL_isAdded_193 : decode cL_isAdded 193 = .ok (.if_icmp .ne 37, 3) := by decide +kernel
theorem dL_isAdded_196 : decode cL_isAdded 196 = .ok (.aload_n 0, 1) := by decide +kernel
theorem dL_isAdded_197 : decode cL_isAdded 197 = .ok (.iload 7, 2) := by decide +kernel
theorem dL_isAdded_199 : decode cL_isAdded 199 = .ok (.iconst 0, 1) := by decide +kernel
theorem dL_isAdded_200 : decode cL_isAdded 200 = .ok (.invokevirtual 47, 3) := by decide +kernel
theorem dL_isAdded_203 : decode cL_isAdded 203 = .ok (.ifCond .ne 27, 3) := by decide +kernel
theorem dL_isAdded_206 : decode cL_isAdded 206 = .ok (.aload_n 0, 1) := by decide +kernel
theorem dL_isAdded_207 : decode cL_isAdded 207 = .ok (.iload 7, 2) := by decide +kernel
theorem dL_isAdded_209 : decode cL_isAdded 209 = .ok (.iconst 0, 1) := by decide +kernel
theorem dL_isAdded_210 : decode cL_isAdded 210 = .ok (.invokevirtual 50, 3) := by decide +kernel
theorem dL_isAdded_213 : decode cL_isAdded 213 = .ok (.iconst (-1), 1) := by decide +kernel
theorem dL_isAdded_214 : decode cL_isAdded 214 = .ok (.if_icmp .ne 16, 3) := by decide +kernel
theorem dL_isAdded_217 : decode cL_isAdded 217 = .ok (.aload_n 0, 1) := by decide +kernel
theorem dL_isAdded_218 : decode cL_isAdded 218 = .ok (.iload 7, 2) := by decide +kernel
theorem dL_isAdded_220 : decode cL_isAdded 220 = .ok (.invokevirtual 41, 3) := by decide +kernel
theorem dL_isAdded_223 : decode cL_isAdded 223 = .ok (.ifCond .ne 7, 3) := by decide +kernel
theorem dL_isAdded_226 : decode cL_isAdded 226 = .ok (.iconst 1, 1) := by decide +kernel
theorem dL_isAdded_227 : decode cL_isAdded 227 = .ok (.goto 4, 3) := by decide +kernel
theorem dL_isAdded_230 : decode cL_isAdded 230 = .ok (.iconst 0, 1) := by decide +kernel
theorem dL_isAdded_231 : decode cL_isAdded 231 = .ok (.istore 6, 2) := by decide +kernel
theorem dL_isAdded_233 : decode cL_isAdded 233 = .ok (.iinc 7 1, 3) := by decide +kernel
theorem dL_isAdded_236 : decode cL_isAdded 236 = .ok (.goto (-105), 3) := by decide +kernel
theorem dL_isAdded_239 : decode cL_isAdded 239 = .ok (.iload 6, 2) := by decide +kernel
theorem dL_isAdded_241 : decode cL_isAdded 241 = .ok (.ireturn, 1) := by decide +kernel
