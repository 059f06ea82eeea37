set_option maxRecDepth 20000 in
theorem ggL_insert_X5_insert : GoodIn wsL_insert wsX5_insert := goodIn_ca (goodIn_ca (goodIn_ca (goodIn_r _ [8, 9, 10, 11, 12, 13, 14, 15, 16, 17, 7, 18, 19, 20, 21, 22, 23, 24, 25, 26, 27, 28, 29, 30, 31, 32, 33, 34, 35, 36, 37, 38, 39, 40, 41, 42, 43, 44, 45, 46, 47, 48, 49, 50, 51, 52, 53, 54, 55, 56, 57, 58, 59, 60, 61, 62, 63, 64, 65, 66, 67, 68, 69, 70, 71, 72, 73, 74, 75, 76, 77, 78, 79, 80, 81, 82, 83, 84, 85, 86, 87, 88, 89, 90, 91, 92, 93, 94, 95, 96, 97, 98, 99, 100, 101, 102, 103, 104, 105, 106, 107, 108, 109, 110, 111, 112, 113, 114, 115, 116, 117, 118, 119, 120, 121, 122, 123, 124, 125, 126, 127, 128, 129, 130, 131, 132, 133, 134, 135, 136, 137, 138, 139, 140, 141, 142, 143, 144, 145] (by decide +kernel) (by decide +kernel)) (goodIn_sub (fun _ h => List.mem_cons_of_mem _ (List.mem_append_left _ (List.mem_append_left _ (List.mem_append_right _ h)))) (by decide +kernel))) (goodIn_sub (fun _ h => List.mem_cons_of_mem _ (List.mem_append_left _ (List.mem_append_right _ h))) (by decide +kernel))) (goodIn_sub (fun _ h => List.mem_cons_of_mem _ (List.mem_append_right _ h)) (by decide +kernel))
set_option maxRecDepth 20000 in
theorem gL_insert_X5_insert : GoodIn wsL_insert (wsV RL 9 RX5 yX5_insert wsX5_insert) := goodIn_app (goodIn_of _ (by decide +kernel)) ggL_insert_X5_insert
theorem dL_insert_0 : decode cL_insert 0 = .ok (.aload_n 0, 1) := by decide +kernel
theorem dL_insert_1 : decode cL_insert 1 = .ok (.iload_n 1, 1) := by decide +kernel
theorem dL_insert_2 : decode cL_insert 2 = .ok (.iload_n 2, 1) := by decide +kernel
theorem dL_insert_3 : decode cL_insert 3 = .ok (.iload_n 3, 1) := by decide +kernel
theorem dL_insert_4 : decode cL_insert 4 = .ok (.iload 4, 2) := by decide +kernel
theorem dL_insert_6 : decode cL_insert 6 = .ok (.iload 5, 2) := by decide +kernel
theorem dL_insert_8 : decode cL_insert 8 = .ok (.invokevirtual 9, 3) := by decide +kernel
theorem dL_insert_11 : decode cL_insert 11 = .ok (.istore 6, 2) := by decide +kernel
theorem dL_insert_13 : decode cL_insert 13 = .ok (.goto 18, 3) := by decide +kernel
theorem dL_insert_16 : decode cL_insert 16 = .ok (.astore 7, 2) := by decide +kernel
theorem dL_insert_18 : decode cL_insert 18 = .ok (.bipush (-31), 2) := by decide +kernel
theorem dL_insert_20 : decode cL_insert 20 = .ok (.ireturn, 1) := by decide +kernel
theorem dL_insert_21 : decode cL_insert 21 = .ok (.astore 7, 2) := by decide +kernel
theorem dL_insert_23 : decode cL_insert 23 = .ok (.bipush (-32), 2) := by decide +kernel
theorem dL_insert_25 : decode cL_insert 25 = .ok (.ireturn, 1) := by decide +kernel
theorem dL_insert_26 : decode cL_insert 26 = .ok (.astore 7, 2) := by decide +kernel
theorem dL_insert_28 : decode cL_insert 28 = .ok (.bipush (-33), 2) := by decide +kernel
theorem dL_insert_30 : decode cL_insert 30 = .ok (.ireturn, 1) := by decide +kernel
theorem dL_insert_31 : decode cL_insert 31 = .ok (.iload 6, 2) := by decide +kernel
theorem dL_insert_33 : decode cL_insert 33 = .ok (.ireturn, 1) := by decide +kernel
set_option maxRecDepth 20000 in
theorem ggL_change_X5_change : GoodIn wsL_change wsX5_change := goodIn_ca (goodIn_ca (goodIn_r _ [7, 8, 9, 10, 11, 12, 6, 13, 14, 15, 16, 17, 18, 19, 20, 21, 22, 23, 24, 25, 26, 27, 28, 29, 30, 31, 32, 33, 34, 35, 36, 37, 38, 39, 40, 41, 42, 43, 44, 45, 46, 47, 48, 49, 50, 51, 52, 53, 54, 55, 56, 57, 58, 59, 60, 61, 62, 63, 64, 65, 66, 67, 68, 69, 70, 71, 72, 73, 74, 75, 76, 77, 78, 79, 80, 81, 82, 83, 84, 85, 86, 87, 88, 89, 90, 91, 92, 93, 94, 95, 96, 97, 98, 99, 100, 101, 102, 103, 104, 105, 106, 107, 108, 109, 110, 111, 112, 113, 114, 115, 116, 117, 118, 119, 120, 121, 122, 123, 124, 125, 126, 127, 128, 129, 130, 131, 132, 133, 134, 135, 136, 137] (by decide +kernel) (by decide +kernel)) (goodIn_sub (fun _ h => List.mem_cons_of_mem _ (List.mem_append_left _ (List.mem_append_right _ h))) (by decide +kernel))) (goodIn_sub (fun _ h => List.mem_cons_of_mem _ (List.mem_append_right _ h)) (by decide +kernel))
set_option maxRecDepth 20000 in
theorem gL_change_X5_change : GoodIn wsL_change (wsV RL 21 RX5 yX5_change wsX5_change) := goodIn_app (goodIn_of _ (by decide +kernel)) ggL_change_X5_change
theorem dL_change_0 : decode cL_change 0 = .ok (.aload_n 0, 1) := by decide +kernel
theorem dL_change_1 : decode cL_change 1 = .ok (.iload_n 1, 1) := by decide +kernel
theorem dL_change_2 : decode cL_change 2 = .ok (.iload_n 2, 1) := by decide +kernel
theorem dL_change_3 : decode cL_change 3 = .ok (.iload_n 3, 1) := by decide +kernel
theorem dL_change_4 : decode cL_change 4 = .ok (.iload 4, 2) := by decide +kernel
theorem dL_change_6 : decode cL_change 6 = .ok (.iload 5, 2) := by decide +kernel
theorem dL_change_8 : decode cL_change 8 = .ok (.invokevirtual 21, 3) := by decide +kernel
theorem dL_change_11 : decode cL_change 11 = .ok (.istore 6, 2) := by decide +kernel
theorem dL_change_13 : decode cL_change 13 = .ok (.goto 13, 3) := by decide +kernel
theorem dL_change_16 : decode cL_change 16 = .ok (.astore 7, 2) := by decide +kernel
theorem dL_change_18 : decode cL_change 18 = .ok (.bipush (-31), 2) := by decide +kernel
theorem dL_change_20 : decode cL_change 20 = .ok (.ireturn, 1) := by decide +kernel
theorem dL_change_21 : decode cL_change 21 = .ok (.astore 7, 2) := by decide +kernel
theorem dL_change_23 : decode cL_change 23 = .ok (.bipush (-32), 2) := by decide +kernel
theorem dL_change_25 : decode cL_change 25 = .ok (.ireturn, 1) := by decide +kernel
theorem dL_change_26 : decode cL_change 26 = .ok (.iload 6, 2) := by decide +kernel
theorem dL_change_28 : decode cL_change 28 = .ok (.ireturn, 1) := by decide +kernel
set_option maxRecDepth 20000 in
theorem ggL_remove_X5_remove : GoodIn wsL_remove wsX5_remove := goodIn_ca (goodIn_ca (goodIn_r _ [7, 8, 9, 10, 11, 12, 13, 14, 6, 15, 16, 17, 18, 19, 20, 21, 22, 23, 24, 25, 26, 27, 28, 29, 30, 31, 32, 33, 34, 35, 36, 37, 38, 39, 40, 41, 42, 43, 44, 45, 46, 47, 48, 49, 50, 51, 52, 53, 54, 55, 56, 57, 58, 59, 60, 61, 62, 63, 64, 65, 66, 67, 68, 69, 70, 71, 72, 73, 74, 75, 76, 77, 78, 79, 80, 81, 82, 83, 84, 85, 86, 87, 88, 89, 90, 91, 92, 93, 94, 95, 96, 97, 98, 99, 100, 101, 102, 103, 104, 105, 106, 107, 108, 109, 110, 111, 112, 113, 114, 115, 116, 117, 118, 119, 120, 121, 122, 123, 124, 125, 126, 127, 128, 129, 130, 131, 132, 133, 134, 135, 136] (by decide +kernel) (by decide +kernel)) (goodIn_sub (fun _ h => List.mem_cons_of_mem _ (List.mem_append_left _ (List.mem_append_right _ h))) (by decide +kernel))) (goodIn_sub (fun _ h => List.mem_cons_of_mem _ (List.mem_append_right _ h)) (by decide +kernel))
set_option maxRecDepth 20000 in
theorem gL_remove_X5_remove : GoodIn wsL_remove (wsV RL 24 RX5 yX5_remove wsX5_remove) := goodIn_app (goodIn_of _ (by decide +kernel)) ggL_remove_X5_remove
theorem dL_remove_0 : decode cL_remove 0 = .ok (.aload_n 0, 1) := by decide +kernel
theorem dL_remove_1 : decode cL_remove 1 = .ok (.iload_n 1, 1) := by decide +kernel
theorem dL_remove_2 : decode cL_remove 2 = .ok (.iload_n 2, 1) := by decide +kernel
theorem dL_remove_3 : decode cL_remove 3 = .ok (.invokevirtual 24, 3) := by decide +kernel
theorem dL_remove_6 : decode cL_remove 6 = .ok (.istore_n 3, 1) := by decide +kernel
theorem dL_remove_7 : decode cL_remove 7 = .ok (.goto 13, 3) := by decide +kernel
theorem dL_remove_10 : decode cL_remove 10 = .ok (.astore 4, 2) := by decide +kernel
theorem dL_remove_12 : decode cL_remove 12 = .ok (.bipush (-31), 2) := by decide +kernel
theorem dL_remove_14 : decode cL_remove 14 = .ok (.ireturn, 1) := by decide +kernel
theorem dL_remove_15 : decode cL_remove 15 = .ok (.astore 4, 2) := by decide +kernel
theorem dL_remove_17 : decode cL_remove 17 = .ok (.bipush (-33), 2) := by decide +kernel
theorem dL_remove_19 : decode cL_remove 19 = .ok (.ireturn, 1) := by decide +kernel
theorem dL_remove_20 : decode cL_remove 20 = .ok (.iload_n 3, 1) := by decide +kernel
theorem dL_remove_21 : decode cL_remove 21 = .ok (.ireturn, 1) := by decide +kernel
set_option maxRecDepth 20000 in
theorem ggL_simplify_X5_simplify : GoodIn wsL_simplify wsX5_simplify := goodIn_ca (goodIn_ca (goodIn_r _ [7, 8, 9, 10, 11, 12, 13, 6, 14, 15, 16, 17, 18, 19, 20, 21, 22, 23, 24, 25, 26, 27, 28, 29, 30, 31, 32, 33, 34, 35, 36, 37, 38, 39, 40, 41, 42, 43, 44, 45, 46, 47, 48, 49, 50, 51, 52, 53, 54, 55, 56, 57, 58, 59, 60, 61, 62, 63, 64, 65, 66, 67, 68, 69, 70, 71, 72, 73, 74, 75, 76, 77, 78, 79, 80, 81, 82, 83, 84, 85, 86, 87, 88, 89, 90, 91, 92, 93, 94, 95, 96, 97, 98, 99, 100, 101, 102, 103, 104, 105, 106, 107, 108, 109, 110, 111, 112, 113, 114, 115, 116, 117, 118, 119, 120, 121, 122, 123, 124, 125, 126, 127, 128, 129, 130, 131, 132, 133, 134, 135, 136, 137, 138, 139, 140, 141, 142, 143, 144, 145, 146, 147, 148, 149, 150, 151, 152, 153, 154, 155, 156, 157, 158, 159, 160, 161, 162, 163, 164, 165, 166, 167, 168, 169, 170, 171, 172, 173, 174, 175, 176, 177, 178, 179, 180, 181, 182, 183, 184, 185, 186, 187, 188, 189, 190, 191, 192, 193, 194, 195, 196, 197, 198, 199, 200, 201, 202, 203, 204, 205, 206, 207, 208, 209, 210, 211, 212, 213, 214, 215, 216, 217, 218, 219, 220, 221, 222, 223, 224, 225, 226, 227, 228, 229, 230, 231, 232, 233, 234, 235, 236, 237, 238, 239] (by decide +kernel) (by decide +kernel)) (goodIn_sub (fun _ h => List.mem_cons_of_mem _ (List.mem_append_left _ (List.mem_append_right _ h))) (by decide +kernel))) (goodIn_sub (fun _ h => List.mem_cons_of_mem _ (List.mem_append_right _ h)) (by decide +kernel))
set_option maxRecDepth 20000 in
theorem gL_simplify_X5_simplify : GoodIn wsL_simplify (wsV RL 28 RX5 yX5_simplify wsX5_simplify) := goodIn_app (goodIn_of _ (by decide +kernel)) ggL_simplify_X5_simplify
theorem dL_simplify_0 : decode cL_simplify 0 = .ok (.aload_n 0, 1) := by decide +kernel
theorem dL_simplify_1 : decode cL_simplify 1 = .ok (.iload_n 1, 1) := by decide +kernel
theorem dL_simplify_2 : decode cL_simplify 2 = .ok (.iload_n 2, 1) := by decide +kernel
theorem dL_simplify_3 : decode cL_simplify 3 = .ok (.invokevirtual 28, 3) := by decide +kernel
theorem dL_simplify_6 : decode cL_simplify 6 = .ok (.istore_n 3, 1) := by decide +kernel
theorem dL_simplify_7 : decode cL_simplify 7 = .ok (.goto 13, 3) := by decide +kernel
theorem dL_simplify_10 : decode cL_simplify 10 = .ok (.astore 4, 2) := by decide +kernel
theorem dL_simplify_12 : decode cL_simplify 12 = .ok (.bipush (-31), 2) := by decide +kernel
theorem dL_simplify_14 : decode cL_simplify 14 = .ok (.ireturn, 1) := by decide +kernel
theorem dL_simplify_15 : decode cL_simplify 15 = .ok (.astore 4, 2) := by decide +kernel
theorem dL_simplify_17 : decode cL_simplify 17 = .ok (.bipush (-32), 2) := by decide +kernel
theorem dL_simplify_19 : decode cL_simplify 19 = .ok (.ireturn, 1) := by decide +kernel
theorem dL_simplify_20 : decode cL_simplify 20 = .ok (.iload_n 3, 1) := by decide +kernel
theorem dL_simplify_21 : decode cL_simplify 21 = .ok (.ireturn, 1) := by decide +kernel
set_option maxRecDepth 20000 in
theorem ggL_bake_X5_bake : GoodIn wsL_bake wsX5_bake := goodIn_ca (goodIn_r _ [6, 7, 8, 9, 10, 11, 5, 12, 13, 14, 15, 16, 17, 18, 19, 20, 21, 22, 23, 24, 25, 26, 27, 28, 29, 30, 31, 32, 33, 34, 35, 36, 37, 38, 39, 40, 41, 42, 43, 44, 45, 46, 47, 48, 49, 50, 51, 52, 53, 54, 55, 56, 57, 58, 59, 60, 61, 62, 63, 64, 65, 66, 67, 68, 69, 70, 71, 72, 73, 74, 75, 76, 77, 78, 79, 80, 81, 82, 83, 84, 85, 86, 87, 88, 89, 90, 91, 92, 93, 94, 95, 96, 97, 98, 99, 100, 101, 102, 103, 104, 105, 106, 107, 108, 109, 110, 111, 112, 113, 114, 115, 116, 117, 118, 119, 120, 121, 122, 123, 124, 125, 126, 127, 128, 129, 130, 131, 132, 133, 134, 135, 136] (by decide +kernel) (by decide +kernel)) (goodIn_sub (fun _ h => List.mem_cons_of_mem _ (List.mem_append_right _ h)) (by decide +kernel))
set_option maxRecDepth 20000 in
theorem gL_bake_X5_bake : GoodIn wsL_bake (wsV RL 31 RX5 yX5_bake wsX5_bake) := goodIn_app (goodIn_of _ (by decide +kernel)) ggL_bake_X5_bake
theorem dL_bake_0 : decode cL_bake 0 = .ok (.aload_n 0, 1) := by decide +kernel
theorem dL_bake_1 : decode cL_bake 1 = .ok (.iload_n 1, 1) := by decide +kernel
theorem dL_bake_2 : decode cL_bake 2 = .ok (.invokevirtual 31, 3) := by decide +kernel
theorem dL_bake_5 : decode cL_bake 5 = .ok (.istore_n 2, 1) := by decide +kernel
theorem dL_bake_6 : decode cL_bake 6 = .ok (.goto 7, 3) := by decide +kernel
theorem dL_bake_9 : decode cL_bake 9 = .ok (.astore_n 3, 1) := by decide +kernel
theorem dL_bake_10 : decode cL_bake 10 = .ok (.bipush (-31), 2) := by decide +kernel
theorem dL_bake_12 : decode cL_bake 12 = .ok (.ireturn, 1) := by decide +kernel
theorem dL_bake_13 : decode cL_bake 13 = .ok (.iload_n 2, 1) := by decide +kernel
theorem dL_bake_14 : decode cL_bake 14 = .ok (.ireturn, 1) := by decide +kernel
set_option maxRecDepth 20000 in
theorem ggL_set_X5_set : GoodIn wsL_set wsX5_set := goodIn_ca (goodIn_ca (goodIn_r _ [7, 8, 9, 10, 11, 12, 13, 6, 14, 15, 16, 17, 18, 19, 20, 21, 22, 23, 24, 25, 26, 27, 28, 29, 30, 31, 32, 33, 34, 35, 36, 37, 38, 39, 40, 41, 42, 43, 44, 45, 46, 47, 48, 49, 50, 51, 52, 53, 54, 55, 56, 57, 58, 59, 60, 61, 62, 63, 64, 65, 66, 67, 68, 69, 70, 71, 72, 73, 74, 75, 76, 77, 78, 79, 80, 81, 82, 83, 84, 85, 86, 87, 88, 89, 90, 91, 92, 93, 94, 95, 96, 97, 98, 99, 100, 101, 102, 103, 104, 105, 106, 107, 108, 109, 110, 111, 112, 113, 114] (by decide +kernel) (by decide +kernel)) (goodIn_sub (fun _ h => List.mem_cons_of_mem _ (List.mem_append_left _ (List.mem_append_right _ h))) (by decide +kernel))) (goodIn_sub (fun _ h => List.mem_cons_of_mem _ (List.mem_append_right _ h)) (by decide +kernel))
set_option maxRecDepth 20000 in
theorem gL_set_X5_set : GoodIn wsL_set (wsV RL 35 RX5 yX5_set wsX5_set) := goodIn_app (goodIn_of _ (by decide +kernel)) ggL_set_X5_set
theorem dL_set_0 : decode cL_set 0 = .ok (.aload_n 0, 1) := by decide +kernel
theorem dL_set_1 : decode cL_set 1 = .ok (.iload_n 1, 1) := by decide +kernel
theorem dL_set_2 : decode cL_set 2 = .ok (.iload_n 2, 1) := by decide +kernel
theorem dL_set_3 : decode cL_set 3 = .ok (.invokevirtual 35, 3) := by decide +kernel
theorem dL_set_6 : decode cL_set 6 = .ok (.istore_n 3, 1) := by decide +kernel
theorem dL_set_7 : decode cL_set 7 = .ok (.goto 13, 3) := by decide +kernel
theorem dL_set_10 : decode cL_set 10 = .ok (.astore 4, 2) := by decide +kernel
theorem dL_set_12 : decode cL_set 12 = .ok (.bipush (-31), 2) := by decide +kernel
theorem dL_set_14 : decode cL_set 14 = .ok (.ireturn, 1) := by decide +kernel
theorem dL_set_15 : decode cL_set 15 = .ok (.astore 4, 2) := by decide +kernel
theorem dL_set_17 : decode cL_set 17 = .ok (.bipush (-32), 2) := by decide +kernel
theorem dL_set_19 : decode cL_set 19 = .ok (.ireturn, 1) := by decide +kernel
theorem dL_set_20 : decode cL_set 20 = .ok (.iload_n 3, 1) := by decide +kernel
theorem dL_set_21 : decode cL_set 21 = .ok (.ireturn, 1) := by decide +kernel
set_option maxRecDepth 20000 in
theorem ggL_stroke_X5_stroke : GoodIn wsL_stroke wsX5_stroke := goodIn_ca (goodIn_ca (goodIn_r _ [7, 8, 9, 10, 11, 6, 12, 13, 14, 15, 16, 17, 18, 19, 20, 21, 22, 23, 24, 25, 26, 27, 28, 29, 30, 31, 32, 33, 34, 35, 36, 37, 38, 39, 40, 41, 42, 43, 44, 45, 46, 47, 48, 49, 50, 51, 52, 53, 54, 55, 56, 57, 58, 59, 60, 61, 62, 63, 64, 65, 66, 67, 68, 69, 70, 71, 72, 73, 74, 75, 76, 77, 78, 79, 80, 81, 82, 83, 84, 85, 86, 87, 88, 89, 90, 91, 92, 93, 94, 95, 96, 97, 98, 99, 100, 101, 102, 103, 104, 105, 106, 107, 108, 109, 110, 111, 112, 113, 114, 115, 116, 117, 118, 119, 120, 121, 122, 123, 124, 125, 126] (by decide +kernel) (by decide +kernel)) (goodIn_sub (fun _ h => List.mem_cons_of_mem _ (List.mem_append_left _ (List.mem_append_right _ h))) (by decide +kernel))) (goodIn_sub (fun _ h => List.mem_cons_of_mem _ (List.mem_append_right _ h)) (by decide +kernel))
set_option maxRecDepth 20000 in
theorem gL_stroke_X5_stroke : GoodIn wsL_stroke (wsV RL 38 RX5 yX5_stroke wsX5_stroke) := goodIn_app (goodIn_of _ (by decide +kernel)) ggL_stroke_X5_stroke
theorem dL_stroke_0 : decode cL_stroke 0 = .ok (.aload_n 0, 1) := by decide +kernel
theorem dL_stroke_1 : decode cL_stroke 1 = .ok (.iload_n 1, 1) := by decide +kernel
theorem dL_stroke_2 : decode cL_stroke 2 = .ok (.iload_n 2, 1) := by decide +kernel
theorem dL_stroke_3 : decode cL_stroke 3 = .ok (.iload_n 3, 1) := by decide +kernel
theorem dL_stroke_4 : decode cL_stroke 4 = .ok (.iload 4, 2) := by decide +kernel
theorem dL_stroke_6 : decode cL_stroke 6 = .ok (.invokevirtual 38, 3) := by decide +kernel
theorem dL_stroke_9 : decode cL_stroke 9 = .ok (.istore 5, 2) := by decide +kernel
theorem dL_stroke_11 : decode cL_stroke 11 = .ok (.goto 13, 3) := by decide +kernel
theorem dL_stroke_14 : decode cL_stroke 14 = .ok (.astore 6, 2) := by decide +kernel
theorem dL_stroke_16 : decode cL_stroke 16 = .ok (.bipush (-32), 2) := by decide +kernel
theorem dL_stroke_18 : decode cL_stroke 18 = .ok (.ireturn, 1) := by decide +kernel
theorem dL_stroke_19 : decode cL_stroke 19 = .ok (.astore 6, 2) := by decide +kernel
theorem dL_stroke_21 : decode cL_stroke 21 = .ok (.bipush (-33), 2) := by decide +kernel
theorem dL_stroke_23 : decode cL_stroke 23 = .ok (.ireturn, 1) := by decide +kernel
theorem dL_stroke_24 : decode cL_stroke 24 = .ok (.iload 5, 2) := by decide +kernel
theorem dL_stroke_26 : decode cL_stroke 26 = .ok (.ireturn, 1) := by decide +kernel
theorem dL_product_0 : decode cL_product 0 = .ok (.aload_n 0, 1) := by decide +kernel
theorem dL_product_1 : decode cL_product 1 = .ok (.iconst 3, 1) := by decide +kernel
theorem dL_product_2 : decode cL_product 2 = .ok (.iload_n 2, 1) := by decide +kernel
theorem dL_product_3 : decode cL_product 3 = .ok (.imul, 1) := by decide +kernel
theorem dL_product_4 : decode cL_product 4 = .ok (.iaload, 1) := by decide +kernel
theorem dL_product_5 : decode cL_product 5 = .ok (.aload_n 0, 1) := by decide +kernel
theorem dL_product_6 : decode cL_product 6 = .ok (.iconst 3, 1) := by decide +kernel
theorem dL_product_7 : decode cL_product 7 = .ok (.iload_n 1, 1) := by decide +kernel
theorem dL_product_8 : decode cL_product 8 = .ok (.imul, 1) := by decide +kernel
theorem dL_product_9 : decode cL_product 9 = .ok (.iaload, 1) := by decide +kernel
theorem dL_product_10 : decode cL_product 10 = .ok (.isub, 1) := by decide +kernel
theorem dL_product_11 : decode cL_product 11 = .ok (.i2l, 1) := by decide +kernel
theorem dL_product_12 : decode cL_product 12 = .ok (.aload_n 0, 1) := by decide +kernel
theorem dL_product_13 : decode cL_product 13 = .ok (.iconst 3, 1) := by decide +kernel
theorem dL_product_14 : decode cL_product 14 = .ok (.iload 4, 2) := by decide +kernel
theorem dL_product_16 : decode cL_product 16 = .ok (.imul, 1) := by decide +kernel
theorem dL_product_17 : decode cL_product 17 = .ok (.iaload, 1) := by decide +kernel
theorem dL_product_18 : decode cL_product 18 = .ok (.aload_n 0, 1) := by decide +kernel
theorem dL_product_19 : decode cL_product 19 = .ok (.iconst 3, 1) := by decide +kernel
theorem dL_product_20 : decode cL_product 20 = .ok (.iload_n 3, 1) := by decide +kernel
theorem dL_product_21 : decode cL_product 21 = .ok (.imul, 1) := by decide +kernel
theorem dL_product_22 : decode cL_product 22 = .ok (.iaload, 1) := by decide +kernel
theorem dL_product_23 : decode cL_product 23 = .ok (.isub, 1) := by decide +kernel
theorem dL_product_24 : decode cL_product 24 = .ok (.i2l, 1) := by decide +kernel
theorem dL_product_25 : decode cL_product 25 = .ok (.lmul, 1) := by decide +kernel
theorem dL_product_26 : decode cL_product 26 = .ok (.aload_n 0, 1) := by decide +kernel
theorem dL_product_27 : decode cL_product 27 = .ok (.iconst 3, 1) := by decide +kernel
theorem dL_product_28 : decode cL_product 28 = .ok (.iload_n 2, 1) := by decide +kernel
theorem dL_product_29 : decode cL_product 29 = .ok (.imul, 1) := by decide +kernel
theorem dL_product_30 : decode cL_product 30 = .ok (.iconst 1, 1) := by decide +kernel
theorem dL_product_31 : decode cL_product 31 = .ok (.iadd, 1) := by decide +kernel
theorem dL_product_32 : decode cL_product 32 = .ok (.iaload, 1) := by decide +kernel
theorem dL_product_33 : decode cL_product 33 = .ok (.aload_n 0, 1) := by decide +kernel
theorem dL_product_34 : decode cL_product 34 = .ok (.iconst 3, 1) := by decide +kernel
theorem dL_product_35 : decode cL_product 35 = .ok (.iload_n 1, 1) := by decide +kernel
theorem dL_product_36 : decode cL_product 36 = .ok (.imul, 1) := by decide +kernel
theorem dL_product_37 : decode cL_product 37 = .ok (.iconst 1, 1) := by decide +kernel
theorem dL_product_38 : decode cL_product 38 = .ok (.iadd, 1) := by decide +kernel
theorem dL_product_39 : decode cL_product 39 = .ok (.iaload, 1) := by decide +kernel
theorem dL_product_40 : decode cL_product 40 = .ok (.isub, 1) := by decide +kernel
theorem dL_product_41 : decode cL_product 41 = .ok (.i2l, 1) := by decide +kernel
theorem dL_product_42 : decode cL_product 42 = .ok (.aload_n 0, 1) := by decide +kernel
theorem dL_product_43 : decode cL_product 43 = .ok (.iconst 3, 1) := by decide +kernel
theorem dL_product_44 : decode cL_product 44 = .ok (.iload 4, 2) := by decide +kernel
theorem dL_product_46 : decode cL_product 46 = .ok (.imul, 1) := by decide +kernel
theorem dL_product_47 : decode cL_product 47 = .ok (.iconst 1, 1) := by decide +kernel
theorem dL_product_48 : decode cL_product 48 = .ok (.iadd, 1) := by decide +kernel
theorem dL_product_49 : decode cL_product 49 = .ok (.iaload, 1) := by decide +kernel
theorem dL_product_50 : decode cL_product 50 = .ok (.aload_n 0, 1) := by decide +kernel
theorem dL_product_51 : decode cL_product 51 = .ok (.iconst 3, 1) := by decide +kernel
theorem dL_product_52 : decode cL_product 52 = .ok (.iload_n 3, 1) := by decide +kernel
theorem dL_product_53 : decode cL_product 53 = .ok (.imul, 1) := by decide +kernel
theorem dL_product_54 : decode cL_product 54 = .ok (.iconst 1, 1) := by decide +kernel
theorem dL_product_55 : decode cL_product 55 = .ok (.iadd, 1) := by decide +kernel
theorem dL_product_56 : decode cL_product 56 = .ok (.iaload, 1) := by decide +kernel
theorem dL_product_57 : decode cL_product 57 = .ok (.isub, 1) := by decide +kernel
theorem dL_product_58 : decode cL_product 58 = .ok (.i2l, 1) := by decide +kernel
theorem dL_product_59 : decode cL_product 59 = .ok (.lmul, 1) := by decide +kernel
theorem dL_product_60 : decode cL_product 60 = .ok (.ladd, 1) := by decide +kernel
theorem dL_product_61 : decode cL_product 61 = .ok (.lreturn, 1) := by decide +kernel
theorem dL_area_0 : decode cL_area 0 = .ok (.aload_n 0, 1) := by decide +kernel
theorem dL_area_1 : decode cL_area 1 = .ok (.iconst 3, 1) := by decide +kernel
theorem dL_area_2 : decode cL_area 2 = .ok (.iload_n 2, 1) := by decide +kernel
theorem dL_area_3 : decode cL_area 3 = .ok (.imul, 1) := by decide +kernel
theorem dL_area_4 : decode cL_area 4 = .ok (.iaload, 1) := by decide +kernel
theorem dL_area_5 : decode cL_area 5 = .ok (.aload_n 0, 1) := by decide +kernel
theorem dL_area_6 : decode cL_area 6 = .ok (.iconst 3, 1) := by decide +kernel
theorem dL_area_7 : decode cL_area 7 = .ok (.iload_n 1, 1) := by decide +kernel
theorem dL_area_8 : decode cL_area 8 = .ok (.imul, 1) := by decide +kernel
theorem dL_area_9 : decode cL_area 9 = .ok (.iaload, 1) := by decide +kernel
theorem dL_area_10 : decode cL_area 10 = .ok (.isub, 1) := by decide +kernel
theorem dL_area_11 : decode cL_area 11 = .ok (.i2l, 1) := by decide +kernel
theorem dL_area_12 : decode cL_area 12 = .ok (.aload_n 0, 1) := by decide +kernel
theorem dL_area_13 : decode cL_area 13 = .ok (.iconst 3, 1) := by decide +kernel
theorem dL_area_14 : decode cL_area 14 = .ok (.iload_n 3, 1) := by decide +kernel
theorem dL_area_15 : decode cL_area 15 = .ok (.imul, 1) := by decide +kernel
theorem dL_area_16 : decode cL_area 16 = .ok (.iconst 1, 1) := by decide +kernel
theorem dL_area_17 : decode cL_area 17 = .ok (.iadd, 1) := by decide +kernel
theorem dL_area_18 : decode cL_area 18 = .ok (.iaload, 1) := by decide +kernel
theorem dL_area_19 : decode cL_area 19 = .ok (.aload_n 0, 1) := by decide +kernel
theorem dL_area_20 : decode cL_area 20 = .ok (.iconst 3, 1) := by decide +kernel
theorem dL_area_21 : decode cL_area 21 = .ok (.iload_n 1, 1) := by decide +kernel
theorem dL_area_22 : decode cL_area 22 = .ok (.imul, 1) := by decide +kernel
theorem dL_area_23 : decode cL_area 23 = .ok (.iconst 1, 1) := by decide +kernel
theorem dL_area_24 : decode cL_area 24 = .ok (.iadd, 1) := by decide +kernel
theorem dL_area_25 : decode cL_area 25 = .ok (.iaload, 1) := by decide +kernel
theorem dL_area_26 : decode cL_area 26 = .ok (.isub, 1) := by decide +kernel
theorem dL_area_27 : decode cL_area 27 = .ok (.i2l, 1) := by decide +kernel
theorem dL_area_28 : decode cL_area 28 = .ok (.lmul, 1) := by decide +kernel
theorem dL_area_29 : decode cL_area 29 = .ok (.aload_n 0, 1) := by decide +kernel
theorem dL_area_30 : decode cL_area 30 = .ok (.iconst 3, 1) := by decide +kernel
theorem dL_area_31 : decode cL_area 31 = .ok (.iload_n 2, 1) := by decide +kernel
theorem dL_area_32 : decode cL_area 32 = .ok (.imul, 1) := by decide +kernel
theorem dL_area_33 : decode cL_area 33 = .ok (.iconst 1, 1) := by decide +kernel
theorem dL_area_34 : decode cL_area 34 = .ok (.iadd, 1) := by decide +kernel
theorem dL_area_35 : decode cL_area 35 = .ok (.iaload, 1) := by decide +kernel
theorem dL_area_36 : decode cL_area 36 = .ok (.aload_n 0, 1) := by decide +kernel
theorem dL_area_37 : decode cL_area 37 = .ok (.iconst 3, 1) := by decide +kernel
theorem dL_area_38 : decode cL_area 38 = .ok (.iload_n 1, 1) := by decide +kernel
theorem dL_area_39 : decode cL_area 39 = .ok (.imul, 1) := by decide +kernel
theorem dL_area_40 : decode cL_area 40 = .ok (.iconst 1, 1) := by decide +kernel
theorem dL_area_41 : decode cL_area 41 = .ok (.iadd, 1) := by decide +kernel
theorem dL_area_42 : decode cL_area 42 = .ok (.iaload, 1) := by decide +kernel
theorem dL_area_43 : decode cL_area 43 = .ok (.isub, 1) := by decide +kernel
theorem dL_area_44 : decode cL_area 44 = .ok (.i2l, 1) := by decide +kernel
theorem dL_area_45 : decode cL_area 45 = .ok (.aload_n 0, 1) := by decide +kernel
theorem dL_area_46 : decode cL_area 46 = .ok (.iconst 3, 1) := by decide +kernel
theorem dL_area_47 : decode cL_area 47 = .ok (.iload_n 3, 1) := by decide +kernel
theorem dL_area_48 : decode cL_area 48 = .ok (.imul, 1) := by decide +kernel
theorem dL_area_49 : decode cL_area 49 = .ok (.iaload, 1) := by decide +kernel
theorem dL_area_50 : decode cL_area 50 = .ok (.aload_n 0, 1) := by decide +kernel
theorem dL_area_51 : decode cL_area 51 = .ok (.iconst 3, 1) := by decide +kernel
theorem dL_area_52 : decode cL_area 52 = .ok (.iload_n 1, 1) := by decide +kernel
theorem dL_area_53 : decode cL_area 53 = .ok (.imul, 1) := by decide +kernel
theorem dL_area_54 : decode cL_area 54 = .ok (.iaload, 1) := by decide +kernel
theorem dL_area_55 : decode cL_area 55 = .ok (.isub, 1) := by decide +kernel
theorem dL_area_56 : decode cL_area 56 = .ok (.i2l, 1) := by decide +kernel
theorem dL_area_57 : decode cL_area 57 = .ok (.lmul, 1) := by decide +kernel
theorem dL_area_58 : decode cL_area 58 = .ok (.lsub, 1) := by decide +kernel
theorem dL_area_59 : decode cL_area 59 = .ok (.lreturn, 1) := by decide +kernel
set_option maxRecDepth 20000 in
theorem ggL_above_L_product : GoodIn wsL_above wsL_product := goodIn_r _ [4] (by decide +kernel) (by decide +kernel)
set_option maxRecDepth 20000 in
theorem gL_above_L_product : GoodIn wsL_above (va_wsS RL 42 yL_product wsL_product) := goodIn_app (goodIn_of _ (by decide +kernel)) ggL_above_L_product
set_option maxRecDepth 20000 in
theorem ggL_above_L_area : GoodIn wsL_above wsL_area := goodIn_r _ [7] (by decide +kernel) (by decide +kernel)
set_option maxRecDepth 20000 in
theorem gL_above_L_area : GoodIn wsL_above (va_wsS RL 48 yL_area wsL_area) := goodIn_app (goodIn_of _ (by decide +kernel)) ggL_above_L_area
theorem dL_above_0 : decode cL_above 0 = .ok (.aload_n 0, 1) := by decide +kernel
theorem dL_above_1 : decode cL_above 1 = .ok (.iload_n 2, 1) := by decide +kernel
theorem dL_above_2 : decode cL_above 2 = .ok (.iload_n 1, 1) := by decide +kernel
theorem dL_above_3 : decode cL_above 3 = .ok (.iload_n 2, 1) := by decide +kernel
theorem dL_above_4 : decode cL_above 4 = .ok (.iload_n 3, 1) := by decide +kernel
theorem dL_above_5 : decode cL_above 5 = .ok (.invokestatic 42, 3) := by decide +kernel
theorem dL_above_8 : decode cL_above 8 = .ok (.lstore 4, 2) := by decide +kernel
theorem dL_above_10 : decode cL_above 10 = .ok (.lload 4, 2) := by decide +kernel
theorem dL_above_12 : decode cL_above 12 = .ok (.lconst 0, 1) := by decide +kernel
theorem dL_above_13 : decode cL_above 13 = .ok (.lcmp, 1) := by decide +kernel
theorem dL_above_14 : decode cL_above 14 = .ok (.ifCond .gt 12, 3) := by decide +kernel
theorem dL_above_17 : decode cL_above 17 = .ok (.aload_n 0, 1) := by decide +kernel
theorem dL_above_18 : decode cL_above 18 = .ok (.iload_n 2, 1) := by decide +kernel
theorem dL_above_19 : decode cL_above 19 = .ok (.iload_n 1, 1) := by decide +kernel
theorem dL_above_20 : decode cL_above 20 = .ok (.iload_n 2, 1) := by decide +kernel
theorem dL_above_21 : decode cL_above 21 = .ok (.iload_n 1, 1) := by decide +kernel
theorem dL_above_22 : decode cL_above 22 = .ok (.invokestatic 42, 3) := by decide +kernel
theorem dL_above_25 : decode cL_above 25 = .ok (.lreturn, 1) := by decide +kernel
theorem dL_above_26 : decode cL_above 26 = .ok (.lload 4, 2) := by decide +kernel
theorem dL_above_28 : decode cL_above 28 = .ok (.aload_n 0, 1) := by decide +kernel
theorem dL_above_29 : decode cL_above 29 = .ok (.iload_n 2, 1) := by decide +kernel
theorem dL_above_30 : decode cL_above 30 = .ok (.iload_n 3, 1) := by decide +kernel
theorem dL_above_31 : decode cL_above 31 = .ok (.iload_n 2, 1) := by decide +kernel
theorem dL_above_32 : decode cL_above 32 = .ok (.iload_n 3, 1) := by decide +kernel
theorem dL_above_33 : decode cL_above 33 = .ok (.invokestatic 42, 3) := by decide +kernel
theorem dL_above_36 : decode cL_above 36 = .ok (.lcmp, 1) := by decide +kernel
theorem dL_above_37 : decode cL_above 37 = .ok (.ifCond .lt 12, 3) := by decide +kernel
theorem dL_above_40 : decode cL_above 40 = .ok (.aload_n 0, 1) := by decide +kernel
theorem dL_above_41 : decode cL_above 41 = .ok (.iload_n 3, 1) := by decide +kernel
theorem dL_above_42 : decode cL_above 42 = .ok (.iload_n 1, 1) := by decide +kernel
theorem dL_above_43 : decode cL_above 43 = .ok (.iload_n 3, 1) := by decide +kernel
theorem dL_above_44 : decode cL_above 44 = .ok (.iload_n 1, 1) := by decide +kernel
theorem dL_above_45 : decode cL_above 45 = .ok (.invokestatic 42, 3) := by decide +kernel
theorem dL_above_48 : decode cL_above 48 = .ok (.lreturn, 1) := by decide +kernel
theorem dL_above_49 : decode cL_above 49 = .ok (.aload_n 0, 1) := by decide +kernel
theorem dL_above_50 : decode cL_above 50 = .ok (.iload_n 2, 1) := by decide +kernel
theorem dL_above_51 : decode cL_above 51 = .ok (.iload_n 1, 1) := by decide +kernel
theorem dL_above_52 : decode cL_above 52 = .ok (.iload_n 3, 1) := by decide +kernel
theorem dL_above_53 : decode cL_above 53 = .ok (.invokestatic 48, 3) := by decide +kernel
theorem dL_above_56 : decode cL_above 56 = .ok (.lstore 6, 2) := by decide +kernel
theorem dL_above_58 : decode cL_above 58 = .ok (.lload 6, 2) := by decide +kernel
theorem dL_above_60 : decode cL_above 60 = .ok (.lload 6, 2) := by decide +kernel
theorem dL_above_62 : decode cL_above 62 = .ok (.lmul, 1) := by decide +kernel
theorem dL_above_63 : decode cL_above 63 = .ok (.lreturn, 1) := by decide +kernel
set_option maxRecDepth 20000 in
theorem ggL_below_L_product : GoodIn wsL_below wsL_product := goodIn_r _ [4] (by decide +kernel) (by decide +kernel)
set_option maxRecDepth 20000 in
theorem gL_below_L_product : GoodIn wsL_below (va_wsS RL 42 yL_product wsL_product) := goodIn_app (goodIn_of _ (by decide +kernel)) ggL_below_L_product
theorem dL_below_0 : decode cL_below 0 = .ok (.aload_n 0, 1) := by decide +kernel
theorem dL_below_1 : decode cL_below 1 = .ok (.iload_n 2, 1) := by decide +kernel
theorem dL_below_2 : decode cL_below 2 = .ok (.iload_n 1, 1) := by decide +kernel
theorem dL_below_3 : decode cL_below 3 = .ok (.iload_n 2, 1) := by decide +kernel
theorem dL_below_4 : decode cL_below 4 = .ok (.iload_n 3, 1) := by decide +kernel
theorem dL_below_5 : decode cL_below 5 = .ok (.invokestatic 42, 3) := by decide +kernel
theorem dL_below_8 : decode cL_below 8 = .ok (.lstore 4, 2) := by decide +kernel
theorem dL_below_10 : decode cL_below 10 = .ok (.lload 4, 2) := by decide +kernel
theorem dL_below_12 : decode cL_below 12 = .ok (.lconst 0, 1) := by decide +kernel
theorem dL_below_13 : decode cL_below 13 = .ok (.lcmp, 1) := by decide +kernel
theorem dL_below_14 : decode cL_below 14 = .ok (.ifCond .le 17, 3) := by decide +kernel
theorem dL_below_17 : decode cL_below 17 = .ok (.lload 4, 2) := by decide +kernel
theorem dL_below_19 : decode cL_below 19 = .ok (.aload_n 0, 1) := by decide +kernel
theorem dL_below_20 : decode cL_below 20 = .ok (.iload_n 2, 1) := by decide +kernel
theorem dL_below_21 : decode cL_below 21 = .ok (.iload_n 3, 1) := by decide +kernel
theorem dL_below_22 : decode cL_below 22 = .ok (.iload_n 2, 1) := by decide +kernel
theorem dL_below_23 : decode cL_below 23 = .ok (.iload_n 3, 1) := by decide +kernel
theorem dL_below_24 : decode cL_below 24 = .ok (.invokestatic 42, 3) := by decide +kernel
theorem dL_below_27 : decode cL_below 27 = .ok (.lcmp, 1) := by decide +kernel
theorem dL_below_28 : decode cL_below 28 = .ok (.ifCond .lt 7, 3) := by decide +kernel
theorem dL_below_31 : decode cL_below 31 = .ok (.lconst 1, 1) := by decide +kernel
theorem dL_below_32 : decode cL_below 32 = .ok (.goto 11, 3) := by decide +kernel
theorem dL_below_35 : decode cL_below 35 = .ok (.aload_n 0, 1) := by decide +kernel
theorem dL_below_36 : decode cL_below 36 = .ok (.iload_n 2, 1) := by decide +kernel
theorem dL_below_37 : decode cL_below 37 = .ok (.iload_n 3, 1) := by decide +kernel
theorem dL_below_38 : decode cL_below 38 = .ok (.iload_n 2, 1) := by decide +kernel
theorem dL_below_39 : decode cL_below 39 = .ok (.iload_n 3, 1) := by decide +kernel
theorem dL_below_40 : decode cL_below 40 = .ok (.invokestatic 42, 3) := by decide +kernel
theorem dL_below_43 : decode cL_below 43 = .ok (.lreturn, 1) := by decide +kernel
theorem dL_root_0 : decode cL_root 0 = .ok (.iconst 0, 1) := by decide +kernel
theorem dL_root_1 : decode cL_root 1 = .ok (.istore_n 2, 1) := by decide +kernel
theorem dL_root_2 : decode cL_root 2 = .ok (.ldc 52, 2) := by decide +kernel
theorem dL_root_4 : decode cL_root 4 = .ok (.istore_n 3, 1) := by decide +kernel
theorem dL_root_5 : decode cL_root 5 = .ok (.iload_n 3, 1) := by decide +kernel
theorem dL_root_6 : decode cL_root 6 = .ok (.iload_n 2, 1) := by decide +kernel
theorem dL_root_7 : decode cL_root 7 = .ok (.isub, 1) := by decide +kernel
theorem dL_root_8 : decode cL_root 8 = .ok (.iconst 1, 1) := by decide +kernel
theorem dL_root_9 : decode cL_root 9 = .ok (.if_icmp .le 34, 3) := by decide +kernel
theorem dL_root_12 : decode cL_root 12 = .ok (.iload_n 2, 1) := by decide +kernel
theorem dL_root_13 : decode cL_root 13 = .ok (.iload_n 3, 1) := by decide +kernel
theorem dL_root_14 : decode cL_root 14 = .ok (.iadd, 1) := by decide +kernel
theorem dL_root_15 : decode cL_root 15 = .ok (.iconst 1, 1) := by decide +kernel
theorem dL_root_16 : decode cL_root 16 = .ok (.ishr, 1) := by decide +kernel
theorem dL_root_17 : decode cL_root 17 = .ok (.istore 4, 2) := by decide +kernel
theorem dL_root_19 : decode cL_root 19 = .ok (.iload 4, 2) := by decide +kernel
theorem dL_root_21 : decode cL_root 21 = .ok (.i2l, 1) := by decide +kernel
theorem dL_root_22 : decode cL_root 22 = .ok (.iload 4, 2) := by decide +kernel
theorem dL_root_24 : decode cL_root 24 = .ok (.i2l, 1) := by decide +kernel
theorem dL_root_25 : decode cL_root 25 = .ok (.lmul, 1) := by decide +kernel
theorem dL_root_26 : decode cL_root 26 = .ok (.lload_n 0, 1) := by decide +kernel
theorem dL_root_27 : decode cL_root 27 = .ok (.lcmp, 1) := by decide +kernel
theorem dL_root_28 : decode cL_root 28 = .ok (.ifCond .gt 9, 3) := by decide +kernel
theorem dL_root_31 : decode cL_root 31 = .ok (.iload 4, 2) := by decide +kernel
theorem dL_root_33 : decode cL_root 33 = .ok (.istore_n 2, 1) := by decide +kernel
theorem dL_root_34 : decode cL_root 34 = .ok (.goto 6, 3) := by decide +kernel
theorem dL_root_37 : decode cL_root 37 = .ok (.iload 4, 2) := by decide +kernel
theorem dL_root_39 : decode cL_root 39 = .ok (.istore_n 3, 1) := by decide +kernel
theorem dL_root_40 : decode cL_root 40 = .ok (.goto (-35), 3) := by decide +kernel
theorem dL_root_43 : decode cL_root 43 = .ok (.iload_n 2, 1) := by decide +kernel
theorem dL_root_44 : decode cL_root 44 = .ok (.ireturn, 1) := by decide +kernel
set_option maxRecDepth 20000 in
theorem ggL_hundredths_L_above : GoodIn wsL_hundredths wsL_above := goodIn_r _ [5, 6, 7, 4, 8, 9, 10, 11] (by decide +kernel) (by decide +kernel)
set_option maxRecDepth 20000 in
theorem gL_hundredths_L_above : GoodIn wsL_hundredths (va_wsS RL 55 yL_above wsL_above) := goodIn_app (goodIn_of _ (by decide +kernel)) ggL_hundredths_L_above
set_option maxRecDepth 20000 in
theorem ggL_hundredths_L_below : GoodIn wsL_hundredths wsL_below := goodIn_r _ [14, 6, 7, 4, 8] (by decide +kernel) (by decide +kernel)
set_option maxRecDepth 20000 in
theorem gL_hundredths_L_below : GoodIn wsL_hundredths (va_wsS RL 58 yL_below wsL_below) := goodIn_app (goodIn_of _ (by decide +kernel)) ggL_hundredths_L_below
set_option maxRecDepth 20000 in
theorem ggL_hundredths_L_root : GoodIn wsL_hundredths wsL_root := goodIn_r _ [17, 18] (by decide +kernel) (by decide +kernel)
set_option maxRecDepth 20000 in
theorem gL_hundredths_L_root : GoodIn wsL_hundredths (va_wsS RL 61 yL_root wsL_root) := goodIn_app (goodIn_of _ (by decide +kernel)) ggL_hundredths_L_root
theorem dL_hundredths_0 : decode cL_hundredths 0 = .ok (.ldc2_w 53, 3) := by decide +kernel
theorem dL_hundredths_3 : decode cL_hundredths 3 = .ok (.aload_n 0, 1) := by decide +kernel
theorem dL_hundredths_4 : decode cL_hundredths 4 = .ok (.iload_n 1, 1) := by decide +kernel
theorem dL_hundredths_5 : decode cL_hundredths 5 = .ok (.iload_n 2, 1) := by decide +kernel
theorem dL_hundredths_6 : decode cL_hundredths 6 = .ok (.iload_n 3, 1) := by decide +kernel
theorem dL_hundredths_7 : decode cL_hundredths 7 = .ok (.invokestatic 55, 3) := by decide +kernel
theorem dL_hundredths_10 : decode cL_hundredths 10 = .ok (.lmul, 1) := by decide +kernel
theorem dL_hundredths_11 : decode cL_hundredths 11 = .ok (.aload_n 0, 1) := by decide +kernel
theorem dL_hundredths_12 : decode cL_hundredths 12 = .ok (.iload_n 1, 1) := by decide +kernel
theorem dL_hundredths_13 : decode cL_hundredths 13 = .ok (.iload_n 2, 1) := by decide +kernel
theorem dL_hundredths_14 : decode cL_hundredths 14 = .ok (.iload_n 3, 1) := by decide +kernel
theorem dL_hundredths_15 : decode cL_hundredths 15 = .ok (.invokestatic 58, 3) := by decide +kernel
theorem dL_hundredths_18 : decode cL_hundredths 18 = .ok (.ldiv, 1) := by decide +kernel
theorem dL_hundredths_19 : decode cL_hundredths 19 = .ok (.invokestatic 61, 3) := by decide +kernel
theorem dL_hundredths_22 : decode cL_hundredths 22 = .ok (.ireturn, 1) := by decide +kernel
set_option maxRecDepth 20000 in
theorem ggL_isSharp_L_product : GoodIn wsL_isSharp wsL_product := goodIn_r _ [5] (by decide +kernel) (by decide +kernel)
set_option maxRecDepth 20000 in
theorem gL_isSharp_L_product : GoodIn wsL_isSharp (va_wsS RL 42 yL_product wsL_product) := goodIn_app (goodIn_of _ (by decide +kernel)) ggL_isSharp_L_product
theorem dL_isSharp_0 : decode cL_isSharp 0 = .ok (.aload_n 0, 1) := by decide +kernel
theorem dL_isSharp_1 : decode cL_isSharp 1 = .ok (.iload_n 1, 1) := by decide +kernel
theorem dL_isSharp_2 : decode cL_isSharp 2 = .ok (.iload_n 2, 1) := by decide +kernel
theorem dL_isSharp_3 : decode cL_isSharp 3 = .ok (.iload_n 2, 1) := by decide +kernel
theorem dL_isSharp_4 : decode cL_isSharp 4 = .ok (.iload_n 3, 1) := by decide +kernel
theorem dL_isSharp_5 : decode cL_isSharp 5 = .ok (.invokestatic 42, 3) := by decide +kernel
theorem dL_isSharp_8 : decode cL_isSharp 8 = .ok (.lstore 5, 2) := by decide +kernel
theorem dL_isSharp_10 : decode cL_isSharp 10 = .ok (.aload_n 0, 1) := by decide +kernel
theorem dL_isSharp_11 : decode cL_isSharp 11 = .ok (.iload_n 1, 1) := by decide +kernel
theorem dL_isSharp_12 : decode cL_isSharp 12 = .ok (.iload_n 2, 1) := by decide +kernel
theorem dL_isSharp_13 : decode cL_isSharp 13 = .ok (.iload_n 1, 1) := by decide +kernel
theorem dL_isSharp_14 : decode cL_isSharp 14 = .ok (.iload_n 2, 1) := by decide +kernel
theorem dL_isSharp_15 : decode cL_isSharp 15 = .ok (.invokestatic 42, 3) := by decide +kernel
theorem dL_isSharp_18 : decode cL_isSharp 18 = .ok (.aload_n 0, 1) := by decide +kernel
theorem dL_isSharp_19 : decode cL_isSharp 19 = .ok (.iload_n 2, 1) := by decide +kernel
theorem dL_isSharp_20 : decode cL_isSharp 20 = .ok (.iload_n 3, 1) := by decide +kernel
theorem dL_isSharp_21 : decode cL_isSharp 21 = .ok (.iload_n 2, 1) := by decide +kernel
theorem dL_isSharp_22 : decode cL_isSharp 22 = .ok (.iload_n 3, 1) := by decide +kernel
theorem dL_isSharp_23 : decode cL_isSharp 23 = .ok (.invokestatic 42, 3) := by decide +kernel
theorem dL_isSharp_26 : decode cL_isSharp 26 = .ok (.lmul, 1) := by decide +kernel
theorem dL_isSharp_27 : decode cL_isSharp 27 = .ok (.lstore 7, 2) := by decide +kernel
theorem dL_isSharp_29 : decode cL_isSharp 29 = .ok (.lload 5, 2) := by decide +kernel
theorem dL_isSharp_31 : decode cL_isSharp 31 = .ok (.lconst 0, 1) := by decide +kernel
theorem dL_isSharp_32 : decode cL_isSharp 32 = .ok (.lcmp, 1) := by decide +kernel
theorem dL_isSharp_33 : decode cL_isSharp 33 = .ok (.ifCond .lt 33, 3) := by decide +kernel
theorem dL_isSharp_36 : decode cL_isSharp 36 = .ok (.lload 7, 2) := by decide +kernel
theorem dL_isSharp_38 : decode cL_isSharp 38 = .ok (.lconst 0, 1) := by decide +kernel
theorem dL_isSharp_39 : decode cL_isSharp 39 = .ok (.lcmp, 1) := by decide +kernel
theorem dL_isSharp_40 : decode cL_isSharp 40 = .ok (.ifCond .le 30, 3) := by decide +kernel
theorem dL_isSharp_43 : decode cL_isSharp 43 = .ok (.ldc2_w 53, 3) := by decide +kernel
theorem dL_isSharp_46 : decode cL_isSharp 46 = .ok (.lload 5, 2) := by decide +kernel
theorem dL_isSharp_48 : decode cL_isSharp 48 = .ok (.lmul, 1) := by decide +kernel
theorem dL_isSharp_49 : decode cL_isSharp 49 = .ok (.lload 5, 2) := by decide +kernel
theorem dL_isSharp_51 : decode cL_isSharp 51 = .ok (.lmul, 1) := by decide +kernel
theorem dL_isSharp_52 : decode cL_isSharp 52 = .ok (.lload 7, 2) := by decide +kernel
theorem dL_isSharp_54 : decode cL_isSharp 54 = .ok (.iload 4, 2) := by decide +kernel
theorem dL_isSharp_56 : decode cL_isSharp 56 = .ok (.i2l, 1) := by decide +kernel
theorem dL_isSharp_57 : decode cL_isSharp 57 = .ok (.lmul, 1) := by decide +kernel
theorem dL_isSharp_58 : decode cL_isSharp 58 = .ok (.iload 4, 2) := by decide +kernel
theorem dL_isSharp_60 : decode cL_isSharp 60 = .ok (.i2l, 1) := by decide +kernel
theorem dL_isSharp_61 : decode cL_isSharp 61 = .ok (.lmul, 1) := by decide +kernel
theorem dL_isSharp_62 : decode cL_isSharp 62 = .ok (.lcmp, 1) := by decide +kernel
theorem dL_isSharp_63 : decode cL_isSharp 63 = .ok (.ifCond .ge 7, 3) := by decide +kernel
theorem dL_isSharp_66 : decode cL_isSharp 66 = .ok (.iconst 1, 1) := by decide +kernel
theorem dL_isSharp_67 : decode cL_isSharp 67 = .ok (.goto 4, 3) := by decide +kernel
theorem dL_isSharp_70 : decode cL_isSharp 70 = .ok (.iconst 0, 1) := by decide +kernel
theorem dL_isSharp_71 : decode cL_isSharp 71 = .ok (.ireturn, 1) := by decide +kernel
set_option maxRecDepth 20000 in
theorem ggL_fixed_L_isSharp : GoodIn wsL_fixed wsL_isSharp := goodIn_r _ [4, 5, 6, 7, 3, 8] (by decide +kernel) (by decide +kernel)
set_option maxRecDepth 20000 in
theorem gL_fixed_L_isSharp : GoodIn wsL_fixed (va_wsS RL 65 yL_isSharp wsL_isSharp) := goodIn_app (goodIn_of _ (by decide +kernel)) ggL_fixed_L_isSharp
theorem dL_fixed_0 : decode cL_fixed 0 = .ok (.iload_n 2, 1) := by decide +kernel
theorem dL_fixed_1 : decode cL_fixed 1 = .ok (.ifCond .eq 10, 3) := by decide +kernel
theorem dL_fixed_4 : decode cL_fixed 4 = .ok (.iload_n 2, 1) := by decide +kernel
theorem dL_fixed_5 : decode cL_fixed 5 = .ok (.iload_n 1, 1) := by decide +kernel
theorem dL_fixed_6 : decode cL_fixed 6 = .ok (.iconst 1, 1) := by decide +kernel
theorem dL_fixed_7 : decode cL_fixed 7 = .ok (.isub, 1) := by decide +kernel
theorem dL_fixed_8 : decode cL_fixed 8 = .ok (.if_icmp .ne 5, 3) := by decide +kernel
theorem dL_fixed_11 : decode cL_fixed 11 = .ok (.iconst 1, 1) := by decide +kernel
theorem dL_fixed_12 : decode cL_fixed 12 = .ok (.ireturn, 1) := by decide +kernel
theorem dL_fixed_13 : decode cL_fixed 13 = .ok (.aload_n 0, 1) := by decide +kernel
theorem dL_fixed_14 : decode cL_fixed 14 = .ok (.iconst 3, 1) := by decide +kernel
theorem dL_fixed_15 : decode cL_fixed 15 = .ok (.iload_n 2, 1) := by decide +kernel
theorem dL_fixed_16 : decode cL_fixed 16 = .ok (.imul, 1) := by decide +kernel
theorem dL_fixed_17 : decode cL_fixed 17 = .ok (.iconst 1, 1) := by decide +kernel
theorem dL_fixed_18 : decode cL_fixed 18 = .ok (.isub, 1) := by decide +kernel
theorem dL_fixed_19 : decode cL_fixed 19 = .ok (.iaload, 1) := by decide +kernel
theorem dL_fixed_20 : decode cL_fixed 20 = .ok (.aload_n 0, 1) := by decide +kernel
theorem dL_fixed_21 : decode cL_fixed 21 = .ok (.iconst 3, 1) := by decide +kernel
theorem dL_fixed_22 : decode cL_fixed 22 = .ok (.iload_n 2, 1) := by decide +kernel
theorem dL_fixed_23 : decode cL_fixed 23 = .ok (.imul, 1) := by decide +kernel
theorem dL_fixed_24 : decode cL_fixed 24 = .ok (.iconst 5, 1) := by decide +kernel
theorem dL_fixed_25 : decode cL_fixed 25 = .ok (.iadd, 1) := by decide +kernel
theorem dL_fixed_26 : decode cL_fixed 26 = .ok (.iaload, 1) := by decide +kernel
theorem dL_fixed_27 : decode cL_fixed 27 = .ok (.if_icmp .ge 13, 3) := by decide +kernel
theorem dL_fixed_30 : decode cL_fixed 30 = .ok (.aload_n 0, 1) := by decide +kernel
theorem dL_fixed_31 : decode cL_fixed 31 = .ok (.iconst 3, 1) := by decide +kernel
theorem dL_fixed_32 : decode cL_fixed 32 = .ok (.iload_n 2, 1) := by decide +kernel
theorem dL_fixed_33 : decode cL_fixed 33 = .ok (.imul, 1) := by decide +kernel
theorem dL_fixed_34 : decode cL_fixed 34 = .ok (.iconst 1, 1) := by decide +kernel
theorem dL_fixed_35 : decode cL_fixed 35 = .ok (.isub, 1) := by decide +kernel
theorem dL_fixed_36 : decode cL_fixed 36 = .ok (.iaload, 1) := by decide +kernel
theorem dL_fixed_37 : decode cL_fixed 37 = .ok (.goto 10, 3) := by decide +kernel
theorem dL_fixed_40 : decode cL_fixed 40 = .ok (.aload_n 0, 1) := by decide +kernel
theorem dL_fixed_41 : decode cL_fixed 41 = .ok (.iconst 3, 1) := by decide +kernel
theorem dL_fixed_42 : decode cL_fixed 42 = .ok (.iload_n 2, 1) := by decide +kernel
theorem dL_fixed_43 : decode cL_fixed 43 = .ok (.imul, 1) := by decide +kernel
theorem dL_fixed_44 : decode cL_fixed 44 = .ok (.iconst 5, 1) := by decide +kernel
theorem dL_fixed_45 : decode cL_fixed 45 = .ok (.iadd, 1) := by decide +kernel
theorem dL_fixed_46 : decode cL_fixed 46 = .ok (.iaload, 1) := by decide +kernel
theorem dL_fixed_47 : decode cL_fixed 47 = .ok (.istore 5, 2) := by decide +kernel
theorem dL_fixed_49 : decode cL_fixed 49 = .ok (.aload_n 0, 1) := by decide +kernel
theorem dL_fixed_50 : decode cL_fixed 50 = .ok (.iload_n 2, 1) := by decide +kernel
theorem dL_fixed_51 : decode cL_fixed 51 = .ok (.iconst 1, 1) := by decide +kernel
theorem dL_fixed_52 : decode cL_fixed 52 = .ok (.isub, 1) := by decide +kernel
theorem dL_fixed_53 : decode cL_fixed 53 = .ok (.iload_n 2, 1) := by decide +kernel
theorem dL_fixed_54 : decode cL_fixed 54 = .ok (.iload_n 2, 1) := by decide +kernel
theorem dL_fixed_55 : decode cL_fixed 55 = .ok (.iconst 1, 1) := by decide +kernel
theorem dL_fixed_56 : decode cL_fixed 56 = .ok (.iadd, 1) := by decide +kernel
theorem dL_fixed_57 : decode cL_fixed 57 = .ok (.iload_n 3, 1) := by decide +kernel
theorem dL_fixed_58 : decode cL_fixed 58 = .ok (.invokestatic 65, 3) := by decide +kernel
theorem dL_fixed_61 : decode cL_fixed 61 = .ok (.ifCond .eq 7, 3) := by decide +kernel
theorem dL_fixed_64 : decode cL_fixed 64 = .ok (.iconst 2, 1) := by decide +kernel
theorem dL_fixed_65 : decode cL_fixed 65 = .ok (.goto 4, 3) := by decide +kernel
theorem dL_fixed_68 : decode cL_fixed 68 = .ok (.iconst 0, 1) := by decide +kernel
theorem dL_fixed_69 : decode cL_fixed 69 = .ok (.aload_n 0, 1) := by decide +kernel
theorem dL_fixed_70 : decode cL_fixed 70 = .ok (.iconst 3, 1) := by decide +kernel
theorem dL_fixed_71 : decode cL_fixed 71 = .ok (.iload_n 2, 1) := by decide +kernel
theorem dL_fixed_72 : decode cL_fixed 72 = .ok (.imul, 1) := by decide +kernel
theorem dL_fixed_73 : decode cL_fixed 73 = .ok (.iconst 2, 1) := by decide +kernel
theorem dL_fixed_74 : decode cL_fixed 74 = .ok (.iadd, 1) := by decide +kernel
theorem dL_fixed_75 : decode cL_fixed 75 = .ok (.iaload, 1) := by decide +kernel
theorem dL_fixed_76 : decode cL_fixed 76 = .ok (.iload 4, 2) := by decide +kernel
theorem dL_fixed_78 : decode cL_fixed 78 = .ok (.iadd, 1) := by decide +kernel
theorem dL_fixed_79 : decode cL_fixed 79 = .ok (.iload 5, 2) := by decide +kernel
theorem dL_fixed_81 : decode cL_fixed 81 = .ok (.if_icmp .gt 7, 3) := by decide +kernel
theorem dL_fixed_84 : decode cL_fixed 84 = .ok (.iconst 4, 1) := by decide +kernel
theorem dL_fixed_85 : decode cL_fixed 85 = .ok (.goto 4, 3) := by decide +kernel
theorem dL_fixed_88 : decode cL_fixed 88 = .ok (.iconst 0, 1) := by decide +kernel
theorem dL_fixed_89 : decode cL_fixed 89 = .ok (.iadd, 1) := by decide +kernel
theorem dL_fixed_90 : decode cL_fixed 90 = .ok (.ireturn, 1) := by decide +kernel
theorem dL_next_0 : decode cL_next 0 = .ok (.iload_n 1, 1) := by decide +kernel
theorem dL_next_1 : decode cL_next 1 = .ok (.iconst 1, 1) := by decide +kernel
theorem dL_next_2 : decode cL_next 2 = .ok (.iadd, 1) := by decide +kernel
theorem dL_next_3 : decode cL_next 3 = .ok (.istore_n 2, 1) := by decide +kernel
theorem dL_next_4 : decode cL_next 4 = .ok (.iload_n 0, 1) := by decide +kernel
theorem dL_next_5 : decode cL_next 5 = .ok (.iload_n 2, 1) := by decide +kernel
theorem dL_next_6 : decode cL_next 6 = .ok (.ishr, 1) := by decide +kernel
theorem dL_next_7 : decode cL_next 7 = .ok (.iconst 1, 1) := by decide +kernel
theorem dL_next_8 : decode cL_next 8 = .ok (.iand, 1) := by decide +kernel
theorem dL_next_9 : decode cL_next 9 = .ok (.ifCond .ne 9, 3) := by decide +kernel
theorem dL_next_12 : decode cL_next 12 = .ok (.iinc 2 1, 3) := by decide +kernel
theorem dL_next_15 : decode cL_next 15 = .ok (.goto (-11), 3) := by decide +kernel
theorem dL_next_18 : decode cL_next 18 = .ok (.iload_n 2, 1) := by decide +kernel
theorem dL_next_19 : decode cL_next 19 = .ok (.ireturn, 1) := by decide +kernel
theorem dL_last_0 : decode cL_last 0 = .ok (.iload_n 1, 1) := by decide +kernel
theorem dL_last_1 : decode cL_last 1 = .ok (.iconst 1, 1) := by decide +kernel
theorem dL_last_2 : decode cL_last 2 = .ok (.isub, 1) := by decide +kernel
theorem dL_last_3 : decode cL_last 3 = .ok (.istore_n 2, 1) := by decide +kernel
theorem dL_last_4 : decode cL_last 4 = .ok (.iload_n 0, 1) := by decide +kernel
theorem dL_last_5 : decode cL_last 5 = .ok (.iload_n 2, 1) := by decide +kernel
theorem dL_last_6 : decode cL_last 6 = .ok (.ishr, 1) := by decide +kernel
theorem dL_last_7 : decode cL_last 7 = .ok (.iconst 1, 1) := by decide +kernel
theorem dL_last_8 : decode cL_last 8 = .ok (.iand, 1) := by decide +kernel
theorem dL_last_9 : decode cL_last 9 = .ok (.ifCond .ne 9, 3) := by decide +kernel
theorem dL_last_12 : decode cL_last 12 = .ok (.iinc 2 (-1), 3) := by decide +kernel
theorem dL_last_15 : decode cL_last 15 = .ok (.goto (-11), 3) := by decide +kernel
theorem dL_last_18 : decode cL_last 18 = .ok (.iload_n 2, 1) := by decide +kernel
theorem dL_last_19 : decode cL_last 19 = .ok (.ireturn, 1) := by decide +kernel
theorem dL_ones_0 : decode cL_ones 0 = .ok (.iconst 0, 1) := by decide +kernel
theorem dL_ones_1 : decode cL_ones 1 = .ok (.istore_n 1, 1) := by decide +kernel
theorem dL_ones_2 : decode cL_ones 2 = .ok (.iload_n 0, 1) := by decide +kernel
theorem dL_ones_3 : decode cL_ones 3 = .ok (.istore_n 2, 1) := by decide +kernel
theorem dL_ones_4 : decode cL_ones 4 = .ok (.iload_n 2, 1) := by decide +kernel
theorem dL_ones_5 : decode cL_ones 5 = .ok (.ifCond .le 15, 3) := by decide +kernel
theorem dL_ones_8 : decode cL_ones 8 = .ok (.iinc 1 1, 3) := by decide +kernel
theorem dL_ones_11 : decode cL_ones 11 = .ok (.iload_n 2, 1) := by decide +kernel
theorem dL_ones_12 : decode cL_ones 12 = .ok (.iload_n 2, 1) := by decide +kernel
theorem dL_ones_13 : decode cL_ones 13 = .ok (.iconst 1, 1) := by decide +kernel
theorem dL_ones_14 : decode cL_ones 14 = .ok (.isub, 1) := by decide +kernel
theorem dL_ones_15 : decode cL_ones 15 = .ok (.iand, 1) := by decide +kernel
theorem dL_ones_16 : decode cL_ones 16 = .ok (.istore_n 2, 1) := by decide +kernel
theorem dL_ones_17 : decode cL_ones 17 = .ok (.goto (-13), 3) := by decide +kernel
theorem dL_ones_20 : decode cL_ones 20 = .ok (.iload_n 1, 1) := by decide +kernel
theorem dL_ones_21 : decode cL_ones 21 = .ok (.ireturn, 1) := by decide +kernel
set_option maxRecDepth 20000 in
theorem ggL_isNear_L_last : GoodIn wsL_isNear wsL_last := goodIn_r _ [4] (by decide +kernel) (by decide +kernel)
set_option maxRecDepth 20000 in
theorem gL_isNear_L_last : GoodIn wsL_isNear (va_wsS RL 69 yL_last wsL_last) := goodIn_app (goodIn_of _ (by decide +kernel)) ggL_isNear_L_last
set_option maxRecDepth 20000 in
theorem ggL_isNear_L_next : GoodIn wsL_isNear wsL_next := goodIn_r _ [7] (by decide +kernel) (by decide +kernel)
set_option maxRecDepth 20000 in
theorem gL_isNear_L_next : GoodIn wsL_isNear (va_wsS RL 72 yL_next wsL_next) := goodIn_app (goodIn_of _ (by decide +kernel)) ggL_isNear_L_next
set_option maxRecDepth 20000 in
theorem ggL_isNear_L_above : GoodIn wsL_isNear wsL_above := goodIn_r _ [10, 11, 12, 3, 13, 14, 15, 16] (by decide +kernel) (by decide +kernel)
set_option maxRecDepth 20000 in
theorem gL_isNear_L_above : GoodIn wsL_isNear (va_wsS RL 55 yL_above wsL_above) := goodIn_app (goodIn_of _ (by decide +kernel)) ggL_isNear_L_above
set_option maxRecDepth 20000 in
theorem ggL_isNear_L_below : GoodIn wsL_isNear wsL_below := goodIn_r _ [19, 11, 12, 3, 13] (by decide +kernel) (by decide +kernel)
set_option maxRecDepth 20000 in
theorem gL_isNear_L_below : GoodIn wsL_isNear (va_wsS RL 58 yL_below wsL_below) := goodIn_app (goodIn_of _ (by decide +kernel)) ggL_isNear_L_below
theorem dL_isNear_0 : decode cL_isNear 0 = .ok (.iconst 1, 1) := by decide +kernel
theorem dL_isNear_1 : decode cL_isNear 1 = .ok (.istore 4, 2) := by decide +kernel
theorem dL_isNear_3 : decode cL_isNear 3 = .ok (.iconst 1, 1) := by decide +kernel
theorem dL_isNear_4 : decode cL_isNear 4 = .ok (.istore 5, 2) := by decide +kernel
theorem dL_isNear_6 : decode cL_isNear 6 = .ok (.iload 5, 2) := by decide +kernel
theorem dL_isNear_8 : decode cL_isNear 8 = .ok (.iload_n 1, 1) := by decide +kernel
theorem dL_isNear_9 : decode cL_isNear 9 = .ok (.iconst 1, 1) := by decide +kernel
theorem dL_isNear_10 : decode cL_isNear 10 = .ok (.isub, 1) := by decide +kernel
theorem dL_isNear_11 : decode cL_isNear 11 = .ok (.if_icmp .ge 77, 3) := by decide +kernel
theorem dL_isNear_14 : decode cL_isNear 14 = .ok (.iload 4, 2) := by decide +kernel
theorem dL_isNear_16 : decode cL_isNear 16 = .ok (.ifCond .eq 72, 3) := by decide +kernel
theorem dL_isNear_19 : decode cL_isNear 19 = .ok (.iload_n 2, 1) := by decide +kernel
theorem dL_isNear_20 : decode cL_isNear 20 = .ok (.iload 5, 2) := by decide +kernel
theorem dL_isNear_22 : decode cL_isNear 22 = .ok (.ishr, 1) := by decide +kernel
theorem dL_isNear_23 : decode cL_isNear 23 = .ok (.iconst 1, 1) := by decide +kernel
theorem dL_isNear_24 : decode cL_isNear 24 = .ok (.iand, 1) := by decide +kernel
theorem dL_isNear_25 : decode cL_isNear 25 = .ok (.iconst 1, 1) := by decide +kernel
theorem dL_isNear_26 : decode cL_isNear 26 = .ok (.if_icmp .eq 49, 3) := by decide +kernel
theorem dL_isNear_29 : decode cL_isNear 29 = .ok (.aload_n 0, 1) := by decide +kernel
theorem dL_isNear_30 : decode cL_isNear 30 = .ok (.iload 5, 2) := by decide +kernel
theorem dL_isNear_32 : decode cL_isNear 32 = .ok (.iload_n 2, 1) := by decide +kernel
theorem dL_isNear_33 : decode cL_isNear 33 = .ok (.iload 5, 2) := by decide +kernel
theorem dL_isNear_35 : decode cL_isNear 35 = .ok (.invokestatic 69, 3) := by decide +kernel
theorem dL_isNear_38 : decode cL_isNear 38 = .ok (.iload_n 2, 1) := by decide +kernel
theorem dL_isNear_39 : decode cL_isNear 39 = .ok (.iload 5, 2) := by decide +kernel
theorem dL_isNear_41 : decode cL_isNear 41 = .ok (.invokestatic 72, 3) := by decide +kernel
theorem dL_isNear_44 : decode cL_isNear 44 = .ok (.invokestatic 55, 3) := by decide +kernel
theorem dL_isNear_47 : decode cL_isNear 47 = .ok (.iload_n 3, 1) := by decide +kernel
theorem dL_isNear_48 : decode cL_isNear 48 = .ok (.i2l, 1) := by decide +kernel
theorem dL_isNear_49 : decode cL_isNear 49 = .ok (.iload_n 3, 1) := by decide +kernel
theorem dL_isNear_50 : decode cL_isNear 50 = .ok (.i2l, 1) := by decide +kernel
theorem dL_isNear_51 : decode cL_isNear 51 = .ok (.lmul, 1) := by decide +kernel
theorem dL_isNear_52 : decode cL_isNear 52 = .ok (.aload_n 0, 1) := by decide +kernel
theorem dL_isNear_53 : decode cL_isNear 53 = .ok (.iload 5, 2) := by decide +kernel
theorem dL_isNear_55 : decode cL_isNear 55 = .ok (.iload_n 2, 1) := by decide +kernel
theorem dL_isNear_56 : decode cL_isNear 56 = .ok (.iload 5, 2) := by decide +kernel
theorem dL_isNear_58 : decode cL_isNear 58 = .ok (.invokestatic 69, 3) := by decide +kernel
theorem dL_isNear_61 : decode cL_isNear 61 = .ok (.iload_n 2, 1) := by decide +kernel
theorem dL_isNear_62 : decode cL_isNear 62 = .ok (.iload 5, 2) := by decide +kernel
theorem dL_isNear_64 : decode cL_isNear 64 = .ok (.invokestatic 72, 3) := by decide +kernel
theorem dL_isNear_67 : decode cL_isNear 67 = .ok (.invokestatic 58, 3) := by decide +kernel
theorem dL_isNear_70 : decode cL_isNear 70 = .ok (.lmul, 1) := by decide +kernel
theorem dL_isNear_71 : decode cL_isNear 71 = .ok (.lcmp, 1) := by decide +kernel
theorem dL_isNear_72 : decode cL_isNear 72 = .ok (.ifCond .gt 7, 3) := by decide +kernel
theorem dL_isNear_75 : decode cL_isNear 75 = .ok (.iconst 1, 1) := by decide +kernel
theorem dL_isNear_76 : decode cL_isNear 76 = .ok (.goto 4, 3) := by decide +kernel
theorem dL_isNear_79 : decode cL_isNear 79 = .ok (.iconst 0, 1) := by decide +kernel
theorem dL_isNear_80 : decode cL_isNear 80 = .ok (.istore 4, 2) := by decide +kernel
theorem dL_isNear_82 : decode cL_isNear 82 = .ok (.iinc 5 1, 3) := by decide +kernel
theorem dL_isNear_85 : decode cL_isNear 85 = .ok (.goto (-79), 3) := by decide +kernel
theorem dL_isNear_88 : decode cL_isNear 88 = .ok (.iload 4, 2) := by decide +kernel
theorem dL_isNear_90 : decode cL_isNear 90 = .ok (.ireturn, 1) := by decide +kernel
set_option maxRecDepth 20000 in
theorem ggL_fewest_L_ones : GoodIn wsL_fewest wsL_ones := goodIn_r _ [4] (by decide +kernel) (by decide +kernel)
set_option maxRecDepth 20000 in
theorem gL_fewest_L_ones : GoodIn wsL_fewest (va_wsS RL 75 yL_ones wsL_ones) := goodIn_app (goodIn_of _ (by decide +kernel)) ggL_fewest_L_ones
set_option maxRecDepth 20000 in
theorem ggL_fewest_L_isNear : GoodIn wsL_fewest wsL_isNear := goodIn_r _ [7, 8, 9, 3, 10, 11, 12, 13, 14, 15, 16, 17, 18, 19, 20, 21, 22, 23, 24, 25] (by decide +kernel) (by decide +kernel)
set_option maxRecDepth 20000 in
theorem gL_fewest_L_isNear : GoodIn wsL_fewest (va_wsS RL 78 yL_isNear wsL_isNear) := goodIn_app (goodIn_of _ (by decide +kernel)) ggL_fewest_L_isNear
theorem dL_fewest_0 : decode cL_fewest 0 = .ok (.iconst 1, 1) := by decide +kernel
theorem dL_fewest_1 : decode cL_fewest 1 = .ok (.iload_n 1, 1) := by decide +kernel
theorem dL_fewest_2 : decode cL_fewest 2 = .ok (.ishl, 1) := by decide +kernel
theorem dL_fewest_3 : decode cL_fewest 3 = .ok (.iconst 1, 1) := by decide +kernel
theorem dL_fewest_4 : decode cL_fewest 4 = .ok (.isub, 1) := by decide +kernel
theorem dL_fewest_5 : decode cL_fewest 5 = .ok (.istore 4, 2) := by decide +kernel
theorem dL_fewest_7 : decode cL_fewest 7 = .ok (.iload 4, 2) := by decide +kernel
theorem dL_fewest_9 : decode cL_fewest 9 = .ok (.istore 5, 2) := by decide +kernel
theorem dL_fewest_11 : decode cL_fewest 11 = .ok (.iload 5, 2) := by decide +kernel
theorem dL_fewest_13 : decode cL_fewest 13 = .ok (.ifCond .le 45, 3) := by decide +kernel
theorem dL_fewest_16 : decode cL_fewest 16 = .ok (.iload 5, 2) := by decide +kernel
theorem dL_fewest_18 : decode cL_fewest 18 = .ok (.iload_n 2, 1) := by decide +kernel
theorem dL_fewest_19 : decode cL_fewest 19 = .ok (.iand, 1) := by decide +kernel
theorem dL_fewest_20 : decode cL_fewest 20 = .ok (.iload_n 2, 1) := by decide +kernel
theorem dL_fewest_21 : decode cL_fewest 21 = .ok (.if_icmp .ne 31, 3) := by decide +kernel
theorem dL_fewest_24 : decode cL_fewest 24 = .ok (.iload 5, 2) := by decide +kernel
theorem dL_fewest_26 : decode cL_fewest 26 = .ok (.invokestatic 75, 3) := by decide +kernel
theorem dL_fewest_29 : decode cL_fewest 29 = .ok (.iload 4, 2) := by decide +kernel
theorem dL_fewest_31 : decode cL_fewest 31 = .ok (.invokestatic 75, 3) := by decide +kernel
theorem dL_fewest_34 : decode cL_fewest 34 = .ok (.if_icmp .gt 18, 3) := by decide +kernel
theorem dL_fewest_37 : decode cL_fewest 37 = .ok (.aload_n 0, 1) := by decide +kernel
theorem dL_fewest_38 : decode cL_fewest 38 = .ok (.iload_n 1, 1) := by decide +kernel
theorem dL_fewest_39 : decode cL_fewest 39 = .ok (.iload 5, 2) := by decide +kernel
theorem dL_fewest_41 : decode cL_fewest 41 = .ok (.iload_n 3, 1) := by decide +kernel
theorem dL_fewest_42 : decode cL_fewest 42 = .ok (.invokestatic 78, 3) := by decide +kernel
theorem dL_fewest_45 : decode cL_fewest 45 = .ok (.ifCond .eq 7, 3) := by decide +kernel
theorem dL_fewest_48 : decode cL_fewest 48 = .ok (.iload 5, 2) := by decide +kernel
theorem dL_fewest_50 : decode cL_fewest 50 = .ok (.istore 4, 2) := by decide +kernel
theorem dL_fewest_52 : decode cL_fewest 52 = .ok (.iinc 5 (-1), 3) := by decide +kernel
theorem dL_fewest_55 : decode cL_fewest 55 = .ok (.goto (-44), 3) := by decide +kernel
theorem dL_fewest_58 : decode cL_fewest 58 = .ok (.iload 4, 2) := by decide +kernel
theorem dL_fewest_60 : decode cL_fewest 60 = .ok (.ireturn, 1) := by decide +kernel
set_option maxRecDepth 20000 in
theorem ggL_split_L_next : GoodIn wsL_split wsL_next := goodIn_r _ [4] (by decide +kernel) (by decide +kernel)
set_option maxRecDepth 20000 in
theorem gL_split_L_next : GoodIn wsL_split (va_wsS RL 72 yL_next wsL_next) := goodIn_app (goodIn_of _ (by decide +kernel)) ggL_split_L_next
set_option maxRecDepth 20000 in
theorem ggL_split_L_above : GoodIn wsL_split wsL_above := goodIn_r _ [7, 8, 9, 3, 10, 11, 12, 13] (by decide +kernel) (by decide +kernel)
set_option maxRecDepth 20000 in
theorem gL_split_L_above : GoodIn wsL_split (va_wsS RL 55 yL_above wsL_above) := goodIn_app (goodIn_of _ (by decide +kernel)) ggL_split_L_above
set_option maxRecDepth 20000 in
theorem ggL_split_L_below : GoodIn wsL_split wsL_below := goodIn_r _ [16, 8, 9, 3, 10] (by decide +kernel) (by decide +kernel)
set_option maxRecDepth 20000 in
theorem gL_split_L_below : GoodIn wsL_split (va_wsS RL 58 yL_below wsL_below) := goodIn_app (goodIn_of _ (by decide +kernel)) ggL_split_L_below
theorem dL_split_0 : decode cL_split 0 = .ok (.iload_n 2, 1) := by decide +kernel
theorem dL_split_1 : decode cL_split 1 = .ok (.istore 4, 2) := by decide +kernel
theorem dL_split_3 : decode cL_split 3 = .ok (.iconst 1, 1) := by decide +kernel
theorem dL_split_4 : decode cL_split 4 = .ok (.istore 5, 2) := by decide +kernel
theorem dL_split_6 : decode cL_split 6 = .ok (.iload 5, 2) := by decide +kernel
theorem dL_split_8 : decode cL_split 8 = .ok (.ifCond .eq 191, 3) := by decide +kernel
theorem dL_split_11 : decode cL_split 11 = .ok (.iconst 0, 1) := by decide +kernel
theorem dL_split_12 : decode cL_split 12 = .ok (.istore 5, 2) := by decide +kernel
theorem dL_split_14 : decode cL_split 14 = .ok (.iload_n 1, 1) := by decide +kernel
theorem dL_split_15 : decode cL_split 15 = .ok (.iconst 2, 1) := by decide +kernel
theorem dL_split_16 : decode cL_split 16 = .ok (.isub, 1) := by decide +kernel
theorem dL_split_17 : decode cL_split 17 = .ok (.istore 6, 2) := by decide +kernel
theorem dL_split_19 : decode cL_split 19 = .ok (.iload 6, 2) := by decide +kernel
theorem dL_split_21 : decode cL_split 21 = .ok (.ifCond .lt 175, 3) := by decide +kernel
theorem dL_split_24 : decode cL_split 24 = .ok (.iload 4, 2) := by decide +kernel
theorem dL_split_26 : decode cL_split 26 = .ok (.iload 6, 2) := by decide +kernel
theorem dL_split_28 : decode cL_split 28 = .ok (.ishr, 1) := by decide +kernel
theorem dL_split_29 : decode cL_split 29 = .ok (.iconst 1, 1) := by decide +kernel
theorem dL_split_30 : decode cL_split 30 = .ok (.iand, 1) := by decide +kernel
theorem dL_split_31 : decode cL_split 31 = .ok (.ifCond .ne 6, 3) := by decide +kernel
theorem dL_split_34 : decode cL_split 34 = .ok (.goto 156, 3) := by decide +kernel
theorem dL_split_37 : decode cL_split 37 = .ok (.iload 4, 2) := by decide +kernel
theorem dL_split_39 : decode cL_split 39 = .ok (.iload 6, 2) := by decide +kernel
theorem dL_split_41 : decode cL_split 41 = .ok (.invokestatic 72, 3) := by decide +kernel
theorem dL_split_44 : decode cL_split 44 = .ok (.istore 7, 2) := by decide +kernel
theorem dL_split_46 : decode cL_split 46 = .ok (.iconst (-1), 1) := by decide +kernel
theorem dL_split_47 : decode cL_split 47 = .ok (.istore 8, 2) := by decide +kernel
theorem dL_split_49 : decode cL_split 49 = .ok (.iload 7, 2) := by decide +kernel
theorem dL_split_51 : decode cL_split 51 = .ok (.iconst 1, 1) := by decide +kernel
theorem dL_split_52 : decode cL_split 52 = .ok (.isub, 1) := by decide +kernel
theorem dL_split_53 : decode cL_split 53 = .ok (.istore 9, 2) := by decide +kernel
theorem dL_split_55 : decode cL_split 55 = .ok (.iload 9, 2) := by decide +kernel
theorem dL_split_57 : decode cL_split 57 = .ok (.iload 6, 2) := by decide +kernel
theorem dL_split_59 : decode cL_split 59 = .ok (.if_icmp .le 81, 3) := by decide +kernel
theorem dL_split_62 : decode cL_split 62 = .ok (.iload 8, 2) := by decide +kernel
theorem dL_split_64 : decode cL_split 64 = .ok (.ifCond .lt 49, 3) := by decide +kernel
theorem dL_split_67 : decode cL_split 67 = .ok (.aload_n 0, 1) := by decide +kernel
theorem dL_split_68 : decode cL_split 68 = .ok (.iload 9, 2) := by decide +kernel
theorem dL_split_70 : decode cL_split 70 = .ok (.iload 6, 2) := by decide +kernel
theorem dL_split_72 : decode cL_split 72 = .ok (.iload 7, 2) := by decide +kernel
theorem dL_split_74 : decode cL_split 74 = .ok (.invokestatic 55, 3) := by decide +kernel
theorem dL_split_77 : decode cL_split 77 = .ok (.aload_n 0, 1) := by decide +kernel
theorem dL_split_78 : decode cL_split 78 = .ok (.iload 8, 2) := by decide +kernel
theorem dL_split_80 : decode cL_split 80 = .ok (.iload 6, 2) := by decide +kernel
theorem dL_split_82 : decode cL_split 82 = .ok (.iload 7, 2) := by decide +kernel
theorem dL_split_84 : decode cL_split 84 = .ok (.invokestatic 58, 3) := by decide +kernel
theorem dL_split_87 : decode cL_split 87 = .ok (.lmul, 1) := by decide +kernel
theorem dL_split_88 : decode cL_split 88 = .ok (.aload_n 0, 1) := by decide +kernel
theorem dL_split_89 : decode cL_split 89 = .ok (.iload 8, 2) := by decide +kernel
theorem dL_split_91 : decode cL_split 91 = .ok (.iload 6, 2) := by decide +kernel
theorem dL_split_93 : decode cL_split 93 = .ok (.iload 7, 2) := by decide +kernel
theorem dL_split_95 : decode cL_split 95 = .ok (.invokestatic 55, 3) := by decide +kernel
theorem dL_split_98 : decode cL_split 98 = .ok (.aload_n 0, 1) := by decide +kernel
theorem dL_split_99 : decode cL_split 99 = .ok (.iload 9, 2) := by decide +kernel
theorem dL_split_101 : decode cL_split 101 = .ok (.iload 6, 2) := by decide +kernel
theorem dL_split_103 : decode cL_split 103 = .ok (.iload 7, 2) := by decide +kernel
theorem dL_split_105 : decode cL_split 105 = .ok (.invokestatic 58, 3) := by decide +kernel
theorem dL_split_108 : decode cL_split 108 = .ok (.lmul, 1) := by decide +kernel
theorem dL_split_109 : decode cL_split 109 = .ok (.lcmp, 1) := by decide +kernel
theorem dL_split_110 : decode cL_split 110 = .ok (.ifCond .lt 7, 3) := by decide +kernel
theorem dL_split_113 : decode cL_split 113 = .ok (.iconst 1, 1) := by decide +kernel
theorem dL_split_114 : decode cL_split 114 = .ok (.goto 4, 3) := by decide +kernel
theorem dL_split_117 : decode cL_split 117 = .ok (.iconst 0, 1) := by decide +kernel
theorem dL_split_118 : decode cL_split 118 = .ok (.istore 10, 2) := by decide +kernel
theorem dL_split_120 : decode cL_split 120 = .ok (.iload 10, 2) := by decide +kernel
theorem dL_split_122 : decode cL_split 122 = .ok (.ifCond .eq 8, 3) := by decide +kernel
theorem dL_split_125 : decode cL_split 125 = .ok (.iload 9, 2) := by decide +kernel
theorem dL_split_127 : decode cL_split 127 = .ok (.goto 5, 3) := by decide +kernel
theorem dL_split_130 : decode cL_split 130 = .ok (.iload 8, 2) := by decide +kernel
theorem dL_split_132 : decode cL_split 132 = .ok (.istore 8, 2) := by decide +kernel
theorem dL_split_134 : decode cL_split 134 = .ok (.iinc 9 (-1), 3) := by decide +kernel
theorem dL_split_137 : decode cL_split 137 = .ok (.goto (-82), 3) := by decide +kernel
theorem dL_split_140 : decode cL_split 140 = .ok (.iload 8, 2) := by decide +kernel
theorem dL_split_142 : decode cL_split 142 = .ok (.ifCond .lt 48, 3) := by decide +kernel
theorem dL_split_145 : decode cL_split 145 = .ok (.aload_n 0, 1) := by decide +kernel
theorem dL_split_146 : decode cL_split 146 = .ok (.iload 8, 2) := by decide +kernel
theorem dL_split_148 : decode cL_split 148 = .ok (.iload 6, 2) := by decide +kernel
theorem dL_split_150 : decode cL_split 150 = .ok (.iload 7, 2) := by decide +kernel
theorem dL_split_152 : decode cL_split 152 = .ok (.invokestatic 55, 3) := by decide +kernel
theorem dL_split_155 : decode cL_split 155 = .ok (.iload_n 3, 1) := by decide +kernel
theorem dL_split_156 : decode cL_split 156 = .ok (.i2l, 1) := by decide +kernel
theorem dL_split_157 : decode cL_split 157 = .ok (.iload_n 3, 1) := by decide +kernel
theorem dL_split_158 : decode cL_split 158 = .ok (.i2l, 1) := by decide +kernel
theorem dL_split_159 : decode cL_split 159 = .ok (.lmul, 1) := by decide +kernel
theorem dL_split_160 : decode cL_split 160 = .ok (.aload_n 0, 1) := by decide +kernel
theorem dL_split_161 : decode cL_split 161 = .ok (.iload 8, 2) := by decide +kernel
theorem dL_split_163 : decode cL_split 163 = .ok (.iload 6, 2) := by decide +kernel
theorem dL_split_165 : decode cL_split 165 = .ok (.iload 7, 2) := by decide +kernel
theorem dL_split_167 : decode cL_split 167 = .ok (.invokestatic 58, 3) := by decide +kernel
theorem dL_split_170 : decode cL_split 170 = .ok (.lmul, 1) := by decide +kernel
theorem dL_split_171 : decode cL_split 171 = .ok (.lcmp, 1) := by decide +kernel
theorem dL_split_172 : decode cL_split 172 = .ok (.ifCond .gt 6, 3) := by decide +kernel
theorem dL_split_175 : decode cL_split 175 = .ok (.goto 15, 3) := by decide +kernel
theorem dL_split_178 : decode cL_split 178 = .ok (.iload 4, 2) := by decide +kernel
theorem dL_split_180 : decode cL_split 180 = .ok (.iconst 1, 1) := by decide +kernel
theorem dL_split_181 : decode cL_split 181 = .ok (.iload 8, 2) := by decide +kernel
theorem dL_split_183 : decode cL_split 183 = .ok (.ishl, 1) := by decide +kernel
theorem dL_split_184 : decode cL_split 184 = .ok (.ior, 1) := by decide +kernel
theorem dL_split_185 : decode cL_split 185 = .ok (.istore 4, 2) := by decide +kernel
theorem dL_split_187 : decode cL_split 187 = .ok (.iconst 1, 1) := by decide +kernel
theorem dL_split_188 : decode cL_split 188 = .ok (.istore 5, 2) := by decide +kernel
theorem dL_split_190 : decode cL_split 190 = .ok (.iinc 6 (-1), 3) := by decide +kernel
theorem dL_split_193 : decode cL_split 193 = .ok (.goto (-174), 3) := by decide +kernel
theorem dL_split_196 : decode cL_split 196 = .ok (.goto (-190), 3) := by decide +kernel
theorem dL_split_199 : decode cL_split 199 = .ok (.iload 4, 2) := by decide +kernel
theorem dL_split_201 : decode cL_split 201 = .ok (.ireturn, 1) := by decide +kernel
set_option maxRecDepth 20000 in
theorem ggL_isPair_L_area : GoodIn wsL_isPair wsL_area := goodIn_r _ [4] (by decide +kernel) (by decide +kernel)
set_option maxRecDepth 20000 in
theorem gL_isPair_L_area : GoodIn wsL_isPair (va_wsS RL 48 yL_area wsL_area) := goodIn_app (goodIn_of _ (by decide +kernel)) ggL_isPair_L_area
theorem dL_isPair_0 : decode cL_isPair 0 = .ok (.aload_n 0, 1) := by decide +kernel
theorem dL_isPair_1 : decode cL_isPair 1 = .ok (.iload_n 1, 1) := by decide +kernel
theorem dL_isPair_2 : decode cL_isPair 2 = .ok (.iload_n 2, 1) := by decide +kernel
theorem dL_isPair_3 : decode cL_isPair 3 = .ok (.iload_n 3, 1) := by decide +kernel
theorem dL_isPair_4 : decode cL_isPair 4 = .ok (.invokestatic 48, 3) := by decide +kernel
theorem dL_isPair_7 : decode cL_isPair 7 = .ok (.lstore 5, 2) := by decide +kernel
theorem dL_isPair_9 : decode cL_isPair 9 = .ok (.aload_n 0, 1) := by decide +kernel
theorem dL_isPair_10 : decode cL_isPair 10 = .ok (.iload_n 1, 1) := by decide +kernel
theorem dL_isPair_11 : decode cL_isPair 11 = .ok (.iload_n 2, 1) := by decide +kernel
theorem dL_isPair_12 : decode cL_isPair 12 = .ok (.iload 4, 2) := by decide +kernel
theorem dL_isPair_14 : decode cL_isPair 14 = .ok (.invokestatic 48, 3) := by decide +kernel
theorem dL_isPair_17 : decode cL_isPair 17 = .ok (.lstore 7, 2) := by decide +kernel
theorem dL_isPair_19 : decode cL_isPair 19 = .ok (.aload_n 0, 1) := by decide +kernel
theorem dL_isPair_20 : decode cL_isPair 20 = .ok (.iload_n 3, 1) := by decide +kernel
theorem dL_isPair_21 : decode cL_isPair 21 = .ok (.iload 4, 2) := by decide +kernel
theorem dL_isPair_23 : decode cL_isPair 23 = .ok (.iload_n 1, 1) := by decide +kernel
theorem dL_isPair_24 : decode cL_isPair 24 = .ok (.invokestatic 48, 3) := by decide +kernel
theorem dL_isPair_27 : decode cL_isPair 27 = .ok (.lstore 9, 2) := by decide +kernel
theorem dL_isPair_29 : decode cL_isPair 29 = .ok (.aload_n 0, 1) := by decide +kernel
theorem dL_isPair_30 : decode cL_isPair 30 = .ok (.iload_n 3, 1) := by decide +kernel
theorem dL_isPair_31 : decode cL_isPair 31 = .ok (.iload 4, 2) := by decide +kernel
theorem dL_isPair_33 : decode cL_isPair 33 = .ok (.iload_n 2, 1) := by decide +kernel
theorem dL_isPair_34 : decode cL_isPair 34 = .ok (.invokestatic 48, 3) := by decide +kernel
theorem dL_isPair_37 : decode cL_isPair 37 = .ok (.lstore 11, 2) := by decide +kernel
theorem dL_isPair_39 : decode cL_isPair 39 = .ok (.lload 5, 2) := by decide +kernel
theorem dL_isPair_41 : decode cL_isPair 41 = .ok (.lconst 0, 1) := by decide +kernel
theorem dL_isPair_42 : decode cL_isPair 42 = .ok (.lcmp, 1) := by decide +kernel
theorem dL_isPair_43 : decode cL_isPair 43 = .ok (.ifCond .le 10, 3) := by decide +kernel
theorem dL_isPair_46 : decode cL_isPair 46 = .ok (.lload 7, 2) := by decide +kernel
theorem dL_isPair_48 : decode cL_isPair 48 = .ok (.lconst 0, 1) := by decide +kernel
theorem dL_isPair_49 : decode cL_isPair 49 = .ok (.lcmp, 1) := by decide +kernel
theorem dL_isPair_50 : decode cL_isPair 50 = .ok (.ifCond .lt 17, 3) := by decide +kernel
theorem dL_isPair_53 : decode cL_isPair 53 = .ok (.lload 5, 2) := by decide +kernel
theorem dL_isPair_55 : decode cL_isPair 55 = .ok (.lconst 0, 1) := by decide +kernel
theorem dL_isPair_56 : decode cL_isPair 56 = .ok (.lcmp, 1) := by decide +kernel
theorem dL_isPair_57 : decode cL_isPair 57 = .ok (.ifCond .ge 42, 3) := by decide +kernel
theorem dL_isPair_60 : decode cL_isPair 60 = .ok (.lload 7, 2) := by decide +kernel
theorem dL_isPair_62 : decode cL_isPair 62 = .ok (.lconst 0, 1) := by decide +kernel
theorem dL_isPair_63 : decode cL_isPair 63 = .ok (.lcmp, 1) := by decide +kernel
theorem dL_isPair_64 : decode cL_isPair 64 = .ok (.ifCond .le 35, 3) := by decide +kernel
theorem dL_isPair_67 : decode cL_isPair 67 = .ok (.lload 9, 2) := by decide +kernel
theorem dL_isPair_69 : decode cL_isPair 69 = .ok (.lconst 0, 1) := by decide +kernel
theorem dL_isPair_70 : decode cL_isPair 70 = .ok (.lcmp, 1) := by decide +kernel
theorem dL_isPair_71 : decode cL_isPair 71 = .ok (.ifCond .le 10, 3) := by decide +kernel
theorem dL_isPair_74 : decode cL_isPair 74 = .ok (.lload 11, 2) := by decide +kernel
theorem dL_isPair_76 : decode cL_isPair 76 = .ok (.lconst 0, 1) := by decide +kernel
theorem dL_isPair_77 : decode cL_isPair 77 = .ok (.lcmp, 1) := by decide +kernel
theorem dL_isPair_78 : decode cL_isPair 78 = .ok (.ifCond .lt 17, 3) := by decide +kernel
theorem dL_isPair_81 : decode cL_isPair 81 = .ok (.lload 9, 2) := by decide +kernel
theorem dL_isPair_83 : decode cL_isPair 83 = .ok (.lconst 0, 1) := by decide +kernel
theorem dL_isPair_84 : decode cL_isPair 84 = .ok (.lcmp, 1) := by decide +kernel
theorem dL_isPair_85 : decode cL_isPair 85 = .ok (.ifCond .ge 14, 3) := by decide +kernel
theorem dL_isPair_88 : decode cL_isPair 88 = .ok (.lload 11, 2) := by decide +kernel
theorem dL_isPair_90 : decode cL_isPair 90 = .ok (.lconst 0, 1) := by decide +kernel
theorem dL_isPair_91 : decode cL_isPair 91 = .ok (.lcmp, 1) := by decide +kernel
theorem dL_isPair_92 : decode cL_isPair 92 = .ok (.ifCond .le 7, 3) := by decide +kernel
theorem dL_isPair_95 : decode cL_isPair 95 = .ok (.iconst 1, 1) := by decide +kernel
theorem dL_isPair_96 : decode cL_isPair 96 = .ok (.goto 4, 3) := by decide +kernel
theorem dL_isPair_99 : decode cL_isPair 99 = .ok (.iconst 0, 1) := by decide +kernel
theorem dL_isPair_100 : decode cL_isPair 100 = .ok (.ireturn, 1) := by decide +kernel
set_option maxRecDepth 20000 in
theorem ggL_isSo_X5_setting : GoodIn wsL_isSo wsX5_setting := goodIn_ca (goodIn_r _ [6, 7, 8, 9, 5, 10, 11, 12, 13, 14, 15, 16, 17, 18, 19, 20, 21, 250, 251, 252, 253, 254, 255, 256, 257, 258, 259, 260] (by decide +kernel) (by decide +kernel)) (goodIn_sub (fun _ h => List.mem_cons_of_mem _ (List.mem_append_left _ (List.mem_append_right _ h))) (by decide +kernel))
set_option maxRecDepth 20000 in
theorem gL_isSo_X5_setting : GoodIn wsL_isSo (wsV RL 82 RX5 yX5_setting wsX5_setting) := goodIn_app (goodIn_of _ (by decide +kernel)) ggL_isSo_X5_setting
set_option maxRecDepth 20000 in
theorem ggL_isSo_L_fixed : GoodIn wsL_isSo wsL_fixed := goodIn_r _ [25, 26, 27, 24, 28, 1, 29, 30, 31] (by decide +kernel) (by decide +kernel)
set_option maxRecDepth 20000 in
theorem gL_isSo_L_fixed : GoodIn wsL_isSo (va_wsS RL 85 yL_fixed wsL_fixed) := goodIn_app (goodIn_of _ (by decide +kernel)) ggL_isSo_L_fixed
set_option maxRecDepth 20000 in
theorem ggL_isSo_L_last : GoodIn wsL_isSo wsL_last := goodIn_r _ [34] (by decide +kernel) (by decide +kernel)
set_option maxRecDepth 20000 in
theorem gL_isSo_L_last : GoodIn wsL_isSo (va_wsS RL 69 yL_last wsL_last) := goodIn_app (goodIn_of _ (by decide +kernel)) ggL_isSo_L_last
set_option maxRecDepth 20000 in
theorem ggL_isSo_L_next : GoodIn wsL_isSo wsL_next := goodIn_r _ [37] (by decide +kernel) (by decide +kernel)
set_option maxRecDepth 20000 in
theorem gL_isSo_L_next : GoodIn wsL_isSo (va_wsS RL 72 yL_next wsL_next) := goodIn_app (goodIn_of _ (by decide +kernel)) ggL_isSo_L_next
set_option maxRecDepth 20000 in
theorem ggL_isSo_L_hundredths : GoodIn wsL_isSo wsL_hundredths := goodIn_r _ [40, 1, 41, 42, 24, 43, 29, 30, 31, 44, 45, 46, 47, 48, 49, 50, 51, 52, 53] (by decide +kernel) (by decide +kernel)
set_option maxRecDepth 20000 in
theorem gL_isSo_L_hundredths : GoodIn wsL_isSo (va_wsS RL 89 yL_hundredths wsL_hundredths) := goodIn_app (goodIn_of _ (by decide +kernel)) ggL_isSo_L_hundredths
set_option maxRecDepth 20000 in
theorem ggL_isSo_X5_point : GoodIn wsL_isSo wsX5_point := goodIn_ca (goodIn_ca (goodIn_r _ [57, 58, 59, 7, 60, 61, 62, 5, 63, 64, 65, 66, 67, 11, 12, 68, 69, 70, 17, 71, 72, 73, 74, 75, 76, 77, 78, 79, 80, 81, 82, 83, 84, 85, 86, 87, 88, 89, 90, 91, 92, 93, 94, 95, 96, 97, 98, 99, 100, 101, 102, 103, 104, 105, 106, 107, 14, 15, 16, 18, 19, 20, 21, 108, 109, 110, 111, 112, 113, 114, 115, 116, 117, 118, 119, 120, 121, 122, 123, 124, 125, 126, 127, 128, 129, 130, 131, 132, 133, 134, 135, 136, 137, 138, 139, 140, 141, 142, 143, 144, 145, 146, 147, 148, 149, 150, 151, 152, 153, 154, 155, 156, 157, 158, 159, 160, 161, 162, 163, 164, 165, 166, 250, 251, 252, 253, 254, 255, 256, 257, 258, 259, 260, 261, 262, 263] (by decide +kernel) (by decide +kernel)) (goodIn_sub (fun _ h => List.mem_cons_of_mem _ (List.mem_append_right _ h)) (by decide +kernel))) (goodIn_sub (fun _ h => List.mem_cons_of_mem _ (List.mem_append_left _ (List.mem_append_right _ h))) (by decide +kernel))
set_option maxRecDepth 20000 in
theorem gL_isSo_X5_point : GoodIn wsL_isSo (wsV RL 93 RX5 yX5_point wsX5_point) := goodIn_app (goodIn_of _ (by decide +kernel)) ggL_isSo_X5_point
set_option maxRecDepth 20000 in
theorem ggL_isSo_L_product : GoodIn wsL_isSo wsL_product := goodIn_r _ [31] (by decide +kernel) (by decide +kernel)
set_option maxRecDepth 20000 in
theorem gL_isSo_L_product : GoodIn wsL_isSo (va_wsS RL 42 yL_product wsL_product) := goodIn_app (goodIn_of _ (by decide +kernel)) ggL_isSo_L_product
set_option maxRecDepth 20000 in
theorem ggL_isSo_L_root : GoodIn wsL_isSo wsL_root := goodIn_r _ [52, 53] (by decide +kernel) (by decide +kernel)
set_option maxRecDepth 20000 in
theorem gL_isSo_L_root : GoodIn wsL_isSo (va_wsS RL 61 yL_root wsL_root) := goodIn_app (goodIn_of _ (by decide +kernel)) ggL_isSo_L_root
set_option maxRecDepth 20000 in
theorem ggL_isSo_L_isSharp : GoodIn wsL_isSo wsL_isSharp := goodIn_r _ [28, 1, 29, 30, 24, 31] (by decide +kernel) (by decide +kernel)
set_option maxRecDepth 20000 in
theorem gL_isSo_L_isSharp : GoodIn wsL_isSo (va_wsS RL 65 yL_isSharp wsL_isSharp) := goodIn_app (goodIn_of _ (by decide +kernel)) ggL_isSo_L_isSharp
set_option maxRecDepth 20000 in
theorem ggL_isSo_L_isPair : GoodIn wsL_isSo wsL_isPair := goodIn_r _ [169, 44, 45, 24, 46] (by decide +kernel) (by decide +kernel)
set_option maxRecDepth 20000 in
theorem gL_isSo_L_isPair : GoodIn wsL_isSo (va_wsS RL 97 yL_isPair wsL_isPair) := goodIn_app (goodIn_of _ (by decide +kernel)) ggL_isSo_L_isPair
set_option maxRecDepth 20000 in
theorem ggL_isSo_X5_strokeOf : GoodIn wsL_isSo wsX5_strokeOf := goodIn_ca (goodIn_ca (goodIn_r _ [173, 58, 59, 7, 60, 61, 62, 5, 63, 64, 65, 66, 67, 11, 12, 68, 69, 70, 17, 71, 72, 73, 74, 75, 76, 77, 78, 82, 83, 84, 85, 86, 87, 174, 175, 176, 177, 105, 178, 179, 180, 181, 182, 183, 184, 185, 186, 187, 188, 189, 190, 15, 16, 18, 19, 20, 21, 191, 109, 110, 111, 112, 113, 114, 115, 116, 117, 118, 119, 120, 121, 122, 123, 124, 125, 89, 90, 91, 92, 126, 94, 95, 96, 127, 128, 129, 130, 131, 132, 133, 134, 135, 98, 99, 100, 192, 193, 194, 195, 140, 102, 103, 104, 106, 107, 141, 142, 143, 144, 165, 166, 196, 197, 198, 199, 200, 137, 138, 139, 145, 146, 147, 148, 149, 150, 151, 152, 153, 154, 155, 156, 157, 158, 159, 160, 161, 162, 163, 164, 136, 201, 202, 203, 204, 205, 206, 207, 208, 209, 210, 211, 212, 213, 214, 14, 215, 216, 217, 218, 219, 220, 221, 222, 250, 251, 252, 253, 254, 255, 256, 257, 258, 259, 260, 261, 262, 263] (by decide +kernel) (by decide +kernel)) (goodIn_sub (fun _ h => List.mem_cons_of_mem _ (List.mem_append_right _ h)) (by decide +kernel))) (goodIn_sub (fun _ h => List.mem_cons_of_mem _ (List.mem_append_left _ (List.mem_append_right _ h))) (by decide +kernel))
set_option maxRecDepth 20000 in
theorem gL_isSo_X5_strokeOf : GoodIn wsL_isSo (wsV RL 100 RX5 yX5_strokeOf wsX5_strokeOf) := goodIn_app (goodIn_of _ (by decide +kernel)) ggL_isSo_X5_strokeOf
set_option maxRecDepth 20000 in
theorem ggL_isSo_L_ones : GoodIn wsL_isSo wsL_ones := goodIn_r _ [225] (by decide +kernel) (by decide +kernel)
set_option maxRecDepth 20000 in
theorem gL_isSo_L_ones : GoodIn wsL_isSo (va_wsS RL 75 yL_ones wsL_ones) := goodIn_app (goodIn_of _ (by decide +kernel)) ggL_isSo_L_ones
set_option maxRecDepth 20000 in
theorem ggL_isSo_X5_crossings : GoodIn wsL_isSo wsX5_crossings := goodIn_ca (goodIn_r _ [229, 60, 61, 62, 5, 63, 7, 64, 65, 66, 67, 11, 12, 68, 69, 70, 17, 71, 72, 73, 74, 75, 76, 77, 78, 230, 231, 232, 85, 233, 87, 140, 102, 103, 104, 105, 106, 107, 234, 235, 236, 237, 141, 142, 143, 144, 145, 146, 147, 148, 238, 239, 240, 241, 242, 243, 244, 245, 246, 247, 248, 249, 125, 89, 90, 91, 92, 126, 94, 95, 96, 250, 251, 252, 253, 254, 255, 256, 257, 258, 259, 260, 261, 262, 263] (by decide +kernel) (by decide +kernel)) (goodIn_sub (fun _ h => List.mem_cons_of_mem _ (List.mem_append_left _ (List.mem_append_right _ h))) (by decide +kernel))
set_option maxRecDepth 20000 in
theorem gL_isSo_X5_crossings : GoodIn wsL_isSo (wsV RL 103 RX5 yX5_crossings wsX5_crossings) := goodIn_app (goodIn_of _ (by decide +kernel)) ggL_isSo_X5_crossings
theorem dL_isSo_0 : decode cL_isSo 0 = .ok (.iconst 0, 1) := by decide +kernel
theorem dL_isSo_1 : decode cL_isSo 1 = .ok (.istore 5, 2) := by decide +kernel
theorem dL_isSo_3 : decode cL_isSo 3 = .ok (.iconst 0, 1) := by decide +kernel
theorem dL_isSo_4 : decode cL_isSo 4 = .ok (.istore 6, 2) := by decide +kernel
theorem dL_isSo_6 : decode cL_isSo 6 = .ok (.iconst 0, 1) := by decide +kernel
theorem dL_isSo_7 : decode cL_isSo 7 = .ok (.istore 7, 2) := by decide +kernel
theorem dL_isSo_9 : decode cL_isSo 9 = .ok (.iconst 0, 1) := by decide +kernel
theorem dL_isSo_10 : decode cL_isSo 10 = .ok (.istore 8, 2) := by decide +kernel
theorem dL_isSo_12 : decode cL_isSo 12 = .ok (.iconst 0, 1) := by decide +kernel
theorem dL_isSo_13 : decode cL_isSo 13 = .ok (.istore 9, 2) := by decide +kernel
theorem dL_isSo_15 : decode cL_isSo 15 = .ok (.iconst 0, 1) := by decide +kernel
theorem dL_isSo_16 : decode cL_isSo 16 = .ok (.istore 10, 2) := by decide +kernel
theorem dL_isSo_18 : decode cL_isSo 18 = .ok (.iconst 0, 1) := by decide +kernel
theorem dL_isSo_19 : decode cL_isSo 19 = .ok (.istore 11, 2) := by decide +kernel
theorem dL_isSo_21 : decode cL_isSo 21 = .ok (.iconst 0, 1) := by decide +kernel
theorem dL_isSo_22 : decode cL_isSo 22 = .ok (.istore 12, 2) := by decide +kernel
theorem dL_isSo_24 : decode cL_isSo 24 = .ok (.iconst 0, 1) := by decide +kernel
theorem dL_isSo_25 : decode cL_isSo 25 = .ok (.istore 13, 2) := by decide +kernel
theorem dL_isSo_27 : decode cL_isSo 27 = .ok (.iload 13, 2) := by decide +kernel
theorem dL_isSo_29 : decode cL_isSo 29 = .ok (.iload_n 3, 1) := by decide +kernel
theorem dL_isSo_30 : decode cL_isSo 30 = .ok (.if_icmp .ge 445, 3) := by decide +kernel
theorem dL_isSo_33 : decode cL_isSo 33 = .ok (.aload_n 2, 1) := by decide +kernel
theorem dL_isSo_34 : decode cL_isSo 34 = .ok (.iload_n 3, 1) := by decide +kernel
theorem dL_isSo_35 : decode cL_isSo 35 = .ok (.iload 13, 2) := by decide +kernel
theorem dL_isSo_37 : decode cL_isSo 37 = .ok (.aload_n 0, 1) := by decide +kernel
theorem dL_isSo_38 : decode cL_isSo 38 = .ok (.iconst 1, 1) := by decide +kernel
theorem dL_isSo_39 : decode cL_isSo 39 = .ok (.invokevirtual 82, 3) := by decide +kernel
theorem dL_isSo_42 : decode cL_isSo 42 = .ok (.aload_n 0, 1) := by decide +kernel
theorem dL_isSo_43 : decode cL_isSo 43 = .ok (.iconst 2, 1) := by decide +kernel
theorem dL_isSo_44 : decode cL_isSo 44 = .ok (.invokevirtual 82, 3) := by decide +kernel
theorem dL_isSo_47 : decode cL_isSo 47 = .ok (.invokestatic 85, 3) := by decide +kernel
theorem dL_isSo_50 : decode cL_isSo 50 = .ok (.istore 14, 2) := by decide +kernel
theorem dL_isSo_52 : decode cL_isSo 52 = .ok (.iload 4, 2) := by decide +kernel
theorem dL_isSo_54 : decode cL_isSo 54 = .ok (.iload 13, 2) := by decide +kernel
theorem dL_isSo_56 : decode cL_isSo 56 = .ok (.ishr, 1) := by decide +kernel
theorem dL_isSo_57 : decode cL_isSo 57 = .ok (.iconst 1, 1) := by decide +kernel
theorem dL_isSo_58 : decode cL_isSo 58 = .ok (.iand, 1) := by decide +kernel
theorem dL_isSo_59 : decode cL_isSo 59 = .ok (.iconst 1, 1) := by decide +kernel
theorem dL_isSo_60 : decode cL_isSo 60 = .ok (.if_icmp .ne 7, 3) := by decide +kernel
theorem dL_isSo_63 : decode cL_isSo 63 = .ok (.iconst 1, 1) := by decide +kernel
theorem dL_isSo_64 : decode cL_isSo 64 = .ok (.goto 4, 3) := by decide +kernel
theorem dL_isSo_67 : decode cL_isSo 67 = .ok (.iconst 0, 1) := by decide +kernel
theorem dL_isSo_68 : decode cL_isSo 68 = .ok (.istore 15, 2) := by decide +kernel
theorem dL_isSo_70 : decode cL_isSo 70 = .ok (.iload 15, 2) := by decide +kernel
theorem dL_isSo_72 : decode cL_isSo 72 = .ok (.ifCond .eq 7, 3) := by decide +kernel
theorem dL_isSo_75 : decode cL_isSo 75 = .ok (.iconst 0, 1) := by decide +kernel
theorem dL_isSo_76 : decode cL_isSo 76 = .ok (.goto 23, 3) := by decide +kernel
theorem dL_isSo_79 : decode cL_isSo 79 = .ok (.aload_n 2, 1) := by decide +kernel
theorem dL_isSo_80 : decode cL_isSo 80 = .ok (.iload 13, 2) := by decide +kernel
theorem dL_isSo_82 : decode cL_isSo 82 = .ok (.iload 4, 2) := by decide +kernel
theorem dL_isSo_84 : decode cL_isSo 84 = .ok (.iload 13, 2) := by decide +kernel
theorem dL_isSo_86 : decode cL_isSo 86 = .ok (.invokestatic 69, 3) := by decide +kernel
theorem dL_isSo_89 : decode cL_isSo 89 = .ok (.iload 4, 2) := by decide +kernel
theorem dL_isSo_91 : decode cL_isSo 91 = .ok (.iload 13, 2) := by decide +kernel
theorem dL_isSo_93 : decode cL_isSo 93 = .ok (.invokestatic 72, 3) := by decide +kernel
theorem dL_isSo_96 : decode cL_isSo 96 = .ok (.invokestatic 89, 3) := by decide +kernel
theorem dL_isSo_99 : decode cL_isSo 99 = .ok (.istore 16, 2) := by decide +kernel
theorem dL_isSo_101 : decode cL_isSo 101 = .ok (.aload_n 0, 1) := by decide +kernel
theorem dL_isSo_102 : decode cL_isSo 102 = .ok (.iload_n 1, 1) := by decide +kernel
theorem dL_isSo_103 : decode cL_isSo 103 = .ok (.iload 13, 2) := by decide +kernel
theorem dL_isSo_105 : decode cL_isSo 105 = .ok (.iconst 0, 1) := by decide +kernel
theorem dL_isSo_106 : decode cL_isSo 106 = .ok (.invokevirtual 93, 3) := by decide +kernel
theorem dL_isSo_109 : decode cL_isSo 109 = .ok (.aload_n 2, 1) := by decide +kernel
theorem dL_isSo_110 : decode cL_isSo 110 = .ok (.iconst 3, 1) := by decide +kernel
theorem dL_isSo_111 : decode cL_isSo 111 = .ok (.iload 13, 2) := by decide +kernel
theorem dL_isSo_113 : decode cL_isSo 113 = .ok (.imul, 1) := by decide +kernel
theorem dL_isSo_114 : decode cL_isSo 114 = .ok (.iaload, 1) := by decide +kernel
theorem dL_isSo_115 : decode cL_isSo 115 = .ok (.if_icmp .ne 88, 3) := by decide +kernel
theorem dL_isSo_118 : decode cL_isSo 118 = .ok (.aload_n 0, 1) := by decide +kernel
theorem dL_isSo_119 : decode cL_isSo 119 = .ok (.iload_n 1, 1) := by decide +kernel
theorem dL_isSo_120 : decode cL_isSo 120 = .ok (.iload 13, 2) := by decide +kernel
theorem dL_isSo_122 : decode cL_isSo 122 = .ok (.iconst 1, 1) := by decide +kernel
theorem dL_isSo_123 : decode cL_isSo 123 = .ok (.invokevirtual 93, 3) := by decide +kernel
theorem dL_isSo_126 : decode cL_isSo 126 = .ok (.aload_n 2, 1) := by decide +kernel
theorem dL_isSo_127 : decode cL_isSo 127 = .ok (.iconst 3, 1) := by decide +kernel
theorem dL_isSo_128 : decode cL_isSo 128 = .ok (.iload 13, 2) := by decide +kernel
theorem dL_isSo_130 : decode cL_isSo 130 = .ok (.imul, 1) := by decide +kernel
theorem dL_isSo_131 : decode cL_isSo 131 = .ok (.iconst 1, 1) := by decide +kernel
theorem dL_isSo_132 : decode cL_isSo 132 = .ok (.iadd, 1) := by decide +kernel
theorem dL_isSo_133 : decode cL_isSo 133 = .ok (.iaload, 1) := by decide +kernel
theorem dL_isSo_134 : decode cL_isSo 134 = .ok (.if_icmp .ne 69, 3) := by decide +kernel
theorem dL_isSo_137 : decode cL_isSo 137 = .ok (.aload_n 0, 1) := by decide +kernel
theorem dL_isSo_138 : decode cL_isSo 138 = .ok (.iload_n 1, 1) := by decide +kernel
theorem dL_isSo_139 : decode cL_isSo 139 = .ok (.iload 13, 2) := by decide +kernel
theorem dL_isSo_141 : decode cL_isSo 141 = .ok (.iconst 2, 1) := by decide +kernel
theorem dL_isSo_142 : decode cL_isSo 142 = .ok (.invokevirtual 93, 3) := by decide +kernel
theorem dL_isSo_145 : decode cL_isSo 145 = .ok (.aload_n 2, 1) := by decide +kernel
theorem dL_isSo_146 : decode cL_isSo 146 = .ok (.iconst 3, 1) := by decide +kernel
theorem dL_isSo_147 : decode cL_isSo 147 = .ok (.iload 13, 2) := by decide +kernel
theorem dL_isSo_149 : decode cL_isSo 149 = .ok (.imul, 1) := by decide +kernel
theorem dL_isSo_150 : decode cL_isSo 150 = .ok (.iconst 2, 1) := by decide +kernel
theorem dL_isSo_151 : decode cL_isSo 151 = .ok (.iadd, 1) := by decide +kernel
theorem dL_isSo_152 : decode cL_isSo 152 = .ok (.iaload, 1) := by decide +kernel
theorem dL_isSo_153 : decode cL_isSo 153 = .ok (.if_icmp .ne 50, 3) := by decide +kernel
theorem dL_isSo_156 : decode cL_isSo 156 = .ok (.aload_n 0, 1) := by decide +kernel
theorem dL_isSo_157 : decode cL_isSo 157 = .ok (.iload_n 1, 1) := by decide +kernel
theorem dL_isSo_158 : decode cL_isSo 158 = .ok (.iload 13, 2) := by decide +kernel
theorem dL_isSo_160 : decode cL_isSo 160 = .ok (.iconst 3, 1) := by decide +kernel
theorem dL_isSo_161 : decode cL_isSo 161 = .ok (.invokevirtual 93, 3) := by decide +kernel
theorem dL_isSo_164 : decode cL_isSo 164 = .ok (.iload 15, 2) := by decide +kernel
theorem dL_isSo_166 : decode cL_isSo 166 = .ok (.ifCond .eq 7, 3) := by decide +kernel
theorem dL_isSo_169 : decode cL_isSo 169 = .ok (.iconst 1, 1) := by decide +kernel
theorem dL_isSo_170 : decode cL_isSo 170 = .ok (.goto 4, 3) := by decide +kernel
theorem dL_isSo_173 : decode cL_isSo 173 = .ok (.iconst 0, 1) := by decide +kernel
theorem dL_isSo_174 : decode cL_isSo 174 = .ok (.if_icmp .ne 29, 3) := by decide +kernel
theorem dL_isSo_177 : decode cL_isSo 177 = .ok (.aload_n 0, 1) := by decide +kernel
theorem dL_isSo_178 : decode cL_isSo 178 = .ok (.iload_n 1, 1) := by decide +kernel
theorem dL_isSo_179 : decode cL_isSo 179 = .ok (.iload 13, 2) := by decide +kernel
theorem dL_isSo_181 : decode cL_isSo 181 = .ok (.iconst 4, 1) := by decide +kernel
theorem dL_isSo_182 : decode cL_isSo 182 = .ok (.invokevirtual 93, 3) := by decide +kernel
theorem dL_isSo_185 : decode cL_isSo 185 = .ok (.iload 14, 2) := by decide +kernel
theorem dL_isSo_187 : decode cL_isSo 187 = .ok (.if_icmp .ne 16, 3) := by decide +kernel
theorem dL_isSo_190 : decode cL_isSo 190 = .ok (.aload_n 0, 1) := by decide +kernel
theorem dL_isSo_191 : decode cL_isSo 191 = .ok (.iload_n 1, 1) := by decide +kernel
theorem dL_isSo_192 : decode cL_isSo 192 = .ok (.iload 13, 2) := by decide +kernel
theorem dL_isSo_194 : decode cL_isSo 194 = .ok (.iconst 5, 1) := by decide +kernel
theorem dL_isSo_195 : decode cL_isSo 195 = .ok (.invokevirtual 93, 3) := by decide +kernel
theorem dL_isSo_198 : decode cL_isSo 198 = .ok (.iload 16, 2) := by decide +kernel
theorem dL_isSo_200 : decode cL_isSo 200 = .ok (.if_icmp .eq 5, 3) := by decide +kernel
theorem dL_isSo_203 : decode cL_isSo 203 = .ok (.iconst 0, 1) := by decide +kernel
theorem dL_isSo_204 : decode cL_isSo 204 = .ok (.ireturn, 1) := by decide +kernel
theorem dL_isSo_205 : decode cL_isSo 205 = .ok (.iload 5, 2) := by decide +kernel
theorem dL_isSo_207 : decode cL_isSo 207 = .ok (.iload 14, 2) := by decide +kernel
theorem dL_isSo_209 : decode cL_isSo 209 = .ok (.ifCond .le 10, 3) := by decide +kernel
theorem dL_isSo_212 : decode cL_isSo 212 = .ok (.iconst 1, 1) := by decide +kernel
theorem dL_isSo_213 : decode cL_isSo 213 = .ok (.iload 13, 2) := by decide +kernel
theorem dL_isSo_215 : decode cL_isSo 215 = .ok (.ishl, 1) := by decide +kernel
theorem dL_isSo_216 : decode cL_isSo 216 = .ok (.goto 4, 3) := by decide +kernel
theorem dL_isSo_219 : decode cL_isSo 219 = .ok (.iconst 0, 1) := by decide +kernel
theorem dL_isSo_220 : decode cL_isSo 220 = .ok (.ior, 1) := by decide +kernel
theorem dL_isSo_221 : decode cL_isSo 221 = .ok (.istore 5, 2) := by decide +kernel
theorem dL_isSo_223 : decode cL_isSo 223 = .ok (.iload 6, 2) := by decide +kernel
theorem dL_isSo_225 : decode cL_isSo 225 = .ok (.iload 14, 2) := by decide +kernel
theorem dL_isSo_227 : decode cL_isSo 227 = .ok (.iconst 1, 1) := by decide +kernel
theorem dL_isSo_228 : decode cL_isSo 228 = .ok (.ishr, 1) := by decide +kernel
theorem dL_isSo_229 : decode cL_isSo 229 = .ok (.iconst 1, 1) := by decide +kernel
theorem dL_isSo_230 : decode cL_isSo 230 = .ok (.iand, 1) := by decide +kernel
theorem dL_isSo_231 : decode cL_isSo 231 = .ok (.iadd, 1) := by decide +kernel
theorem dL_isSo_232 : decode cL_isSo 232 = .ok (.istore 6, 2) := by decide +kernel
theorem dL_isSo_234 : decode cL_isSo 234 = .ok (.iload 7, 2) := by decide +kernel
theorem dL_isSo_236 : decode cL_isSo 236 = .ok (.iload 14, 2) := by decide +kernel
theorem dL_isSo_238 : decode cL_isSo 238 = .ok (.iconst 2, 1) := by decide +kernel
theorem dL_isSo_239 : decode cL_isSo 239 = .ok (.ishr, 1) := by decide +kernel
theorem dL_isSo_240 : decode cL_isSo 240 = .ok (.iadd, 1) := by decide +kernel
theorem dL_isSo_241 : decode cL_isSo 241 = .ok (.istore 7, 2) := by decide +kernel
theorem dL_isSo_243 : decode cL_isSo 243 = .ok (.iload 16, 2) := by decide +kernel
theorem dL_isSo_245 : decode cL_isSo 245 = .ok (.iload 8, 2) := by decide +kernel
theorem dL_isSo_247 : decode cL_isSo 247 = .ok (.if_icmp .le 8, 3) := by decide +kernel
theorem dL_isSo_250 : decode cL_isSo 250 = .ok (.iload 13, 2) := by decide +kernel
theorem dL_isSo_252 : decode cL_isSo 252 = .ok (.goto 5, 3) := by decide +kernel
theorem dL_isSo_255 : decode cL_isSo 255 = .ok (.iload 9, 2) := by decide +kernel
theorem dL_isSo_257 : decode cL_isSo 257 = .ok (.istore 9, 2) := by decide +kernel
theorem dL_isSo_259 : decode cL_isSo 259 = .ok (.iload 16, 2) := by decide +kernel
theorem dL_isSo_261 : decode cL_isSo 261 = .ok (.iload 8, 2) := by decide +kernel
theorem dL_isSo_263 : decode cL_isSo 263 = .ok (.if_icmp .le 8, 3) := by decide +kernel
theorem dL_isSo_266 : decode cL_isSo 266 = .ok (.iload 16, 2) := by decide +kernel
theorem dL_isSo_268 : decode cL_isSo 268 = .ok (.goto 5, 3) := by decide +kernel
theorem dL_isSo_271 : decode cL_isSo 271 = .ok (.iload 8, 2) := by decide +kernel
theorem dL_isSo_273 : decode cL_isSo 273 = .ok (.istore 8, 2) := by decide +kernel
theorem dL_isSo_275 : decode cL_isSo 275 = .ok (.iload 10, 2) := by decide +kernel
theorem dL_isSo_277 : decode cL_isSo 277 = .ok (.iload 15, 2) := by decide +kernel
theorem dL_isSo_279 : decode cL_isSo 279 = .ok (.ifCond .eq 43, 3) := by decide +kernel
theorem dL_isSo_282 : decode cL_isSo 282 = .ok (.iload 13, 2) := by decide +kernel
theorem dL_isSo_284 : decode cL_isSo 284 = .ok (.iload_n 3, 1) := by decide +kernel
theorem dL_isSo_285 : decode cL_isSo 285 = .ok (.iconst 1, 1) := by decide +kernel
theorem dL_isSo_286 : decode cL_isSo 286 = .ok (.isub, 1) := by decide +kernel
theorem dL_isSo_287 : decode cL_isSo 287 = .ok (.if_icmp .ge 35, 3) := by decide +kernel
theorem dL_isSo_290 : decode cL_isSo 290 = .ok (.ldc2_w 53, 3) := by decide +kernel
theorem dL_isSo_293 : decode cL_isSo 293 = .ok (.aload_n 2, 1) := by decide +kernel
theorem dL_isSo_294 : decode cL_isSo 294 = .ok (.iload 13, 2) := by decide +kernel
theorem dL_isSo_296 : decode cL_isSo 296 = .ok (.iload 4, 2) := by decide +kernel
theorem dL_isSo_298 : decode cL_isSo 298 = .ok (.iload 13, 2) := by decide +kernel
theorem dL_isSo_300 : decode cL_isSo 300 = .ok (.invokestatic 72, 3) := by decide +kernel
theorem dL_isSo_303 : decode cL_isSo 303 = .ok (.iload 13, 2) := by decide +kernel
theorem dL_isSo_305 : decode cL_isSo 305 = .ok (.iload 4, 2) := by decide +kernel
theorem dL_isSo_307 : decode cL_isSo 307 = .ok (.iload 13, 2) := by decide +kernel
theorem dL_isSo_309 : decode cL_isSo 309 = .ok (.invokestatic 72, 3) := by decide +kernel
theorem dL_isSo_312 : decode cL_isSo 312 = .ok (.invokestatic 42, 3) := by decide +kernel
theorem dL_isSo_315 : decode cL_isSo 315 = .ok (.lmul, 1) := by decide +kernel
theorem dL_isSo_316 : decode cL_isSo 316 = .ok (.invokestatic 61, 3) := by decide +kernel
theorem dL_isSo_319 : decode cL_isSo 319 = .ok (.goto 4, 3) := by decide +kernel
theorem dL_isSo_322 : decode cL_isSo 322 = .ok (.iconst 0, 1) := by decide +kernel
theorem dL_isSo_323 : decode cL_isSo 323 = .ok (.iadd, 1) := by decide +kernel
theorem dL_isSo_324 : decode cL_isSo 324 = .ok (.istore 10, 2) := by decide +kernel
theorem dL_isSo_326 : decode cL_isSo 326 = .ok (.iload 11, 2) := by decide +kernel
theorem dL_isSo_328 : decode cL_isSo 328 = .ok (.iload 15, 2) := by decide +kernel
theorem dL_isSo_330 : decode cL_isSo 330 = .ok (.ifCond .eq 48, 3) := by decide +kernel
theorem dL_isSo_333 : decode cL_isSo 333 = .ok (.iload 13, 2) := by decide +kernel
theorem dL_isSo_335 : decode cL_isSo 335 = .ok (.ifCond .le 43, 3) := by decide +kernel
theorem dL_isSo_338 : decode cL_isSo 338 = .ok (.iload 13, 2) := by decide +kernel
theorem dL_isSo_340 : decode cL_isSo 340 = .ok (.iload_n 3, 1) := by decide +kernel
theorem dL_isSo_341 : decode cL_isSo 341 = .ok (.iconst 1, 1) := by decide +kernel
theorem dL_isSo_342 : decode cL_isSo 342 = .ok (.isub, 1) := by decide +kernel
theorem dL_isSo_343 : decode cL_isSo 343 = .ok (.if_icmp .ge 35, 3) := by decide +kernel
theorem dL_isSo_346 : decode cL_isSo 346 = .ok (.aload_n 2, 1) := by decide +kernel
theorem dL_isSo_347 : decode cL_isSo 347 = .ok (.iload 4, 2) := by decide +kernel
theorem dL_isSo_349 : decode cL_isSo 349 = .ok (.iload 13, 2) := by decide +kernel
theorem dL_isSo_351 : decode cL_isSo 351 = .ok (.invokestatic 69, 3) := by decide +kernel
theorem dL_isSo_354 : decode cL_isSo 354 = .ok (.iload 13, 2) := by decide +kernel
theorem dL_isSo_356 : decode cL_isSo 356 = .ok (.iload 4, 2) := by decide +kernel
theorem dL_isSo_358 : decode cL_isSo 358 = .ok (.iload 13, 2) := by decide +kernel
theorem dL_isSo_360 : decode cL_isSo 360 = .ok (.invokestatic 72, 3) := by decide +kernel
theorem dL_isSo_363 : decode cL_isSo 363 = .ok (.aload_n 0, 1) := by decide +kernel
theorem dL_isSo_364 : decode cL_isSo 364 = .ok (.iconst 3, 1) := by decide +kernel
theorem dL_isSo_365 : decode cL_isSo 365 = .ok (.invokevirtual 82, 3) := by decide +kernel
theorem dL_isSo_368 : decode cL_isSo 368 = .ok (.invokestatic 65, 3) := by decide +kernel
theorem dL_isSo_371 : decode cL_isSo 371 = .ok (.ifCond .eq 7, 3) := by decide +kernel
theorem dL_isSo_374 : decode cL_isSo 374 = .ok (.iconst 1, 1) := by decide +kernel
theorem dL_isSo_375 : decode cL_isSo 375 = .ok (.goto 4, 3) := by decide +kernel
theorem dL_isSo_378 : decode cL_isSo 378 = .ok (.iconst 0, 1) := by decide +kernel
theorem dL_isSo_379 : decode cL_isSo 379 = .ok (.iadd, 1) := by decide +kernel
theorem dL_isSo_380 : decode cL_isSo 380 = .ok (.istore 11, 2) := by decide +kernel
theorem dL_isSo_382 : decode cL_isSo 382 = .ok (.iconst 0, 1) := by decide +kernel
theorem dL_isSo_383 : decode cL_isSo 383 = .ok (.istore 17, 2) := by decide +kernel
theorem dL_isSo_385 : decode cL_isSo 385 = .ok (.iload 17, 2) := by decide +kernel
theorem dL_isSo_387 : decode cL_isSo 387 = .ok (.iload 13, 2) := by decide +kernel
theorem dL_isSo_389 : decode cL_isSo 389 = .ok (.if_icmp .ge 80, 3) := by decide +kernel
theorem dL_isSo_392 : decode cL_isSo 392 = .ok (.iload 15, 2) := by decide +kernel
theorem dL_isSo_394 : decode cL_isSo 394 = .ok (.ifCond .eq 75, 3) := by decide +kernel
theorem dL_isSo_397 : decode cL_isSo 397 = .ok (.iload 13, 2) := by decide +kernel
theorem dL_isSo_399 : decode cL_isSo 399 = .ok (.iload_n 3, 1) := by decide +kernel
theorem dL_isSo_400 : decode cL_isSo 400 = .ok (.iconst 1, 1) := by decide +kernel
theorem dL_isSo_401 : decode cL_isSo 401 = .ok (.isub, 1) := by decide +kernel
theorem dL_isSo_402 : decode cL_isSo 402 = .ok (.if_icmp .ge 67, 3) := by decide +kernel
theorem dL_isSo_405 : decode cL_isSo 405 = .ok (.iload 12, 2) := by decide +kernel
theorem dL_isSo_407 : decode cL_isSo 407 = .ok (.iload 4, 2) := by decide +kernel
theorem dL_isSo_409 : decode cL_isSo 409 = .ok (.iload 17, 2) := by decide +kernel
theorem dL_isSo_411 : decode cL_isSo 411 = .ok (.ishr, 1) := by decide +kernel
theorem dL_isSo_412 : decode cL_isSo 412 = .ok (.iconst 1, 1) := by decide +kernel
theorem dL_isSo_413 : decode cL_isSo 413 = .ok (.iand, 1) := by decide +kernel
theorem dL_isSo_414 : decode cL_isSo 414 = .ok (.iconst 1, 1) := by decide +kernel
theorem dL_isSo_415 : decode cL_isSo 415 = .ok (.if_icmp .ne 44, 3) := by decide +kernel
theorem dL_isSo_418 : decode cL_isSo 418 = .ok (.iload 4, 2) := by decide +kernel
theorem dL_isSo_420 : decode cL_isSo 420 = .ok (.iload 17, 2) := by decide +kernel
theorem dL_isSo_422 : decode cL_isSo 422 = .ok (.invokestatic 72, 3) := by decide +kernel
theorem dL_isSo_425 : decode cL_isSo 425 = .ok (.iload 13, 2) := by decide +kernel
theorem dL_isSo_427 : decode cL_isSo 427 = .ok (.if_icmp .ge 32, 3) := by decide +kernel
theorem dL_isSo_430 : decode cL_isSo 430 = .ok (.aload_n 2, 1) := by decide +kernel
theorem dL_isSo_431 : decode cL_isSo 431 = .ok (.iload 17, 2) := by decide +kernel
theorem dL_isSo_433 : decode cL_isSo 433 = .ok (.iload 4, 2) := by decide +kernel
theorem dL_isSo_435 : decode cL_isSo 435 = .ok (.iload 17, 2) := by decide +kernel
theorem dL_isSo_437 : decode cL_isSo 437 = .ok (.invokestatic 72, 3) := by decide +kernel
theorem dL_isSo_440 : decode cL_isSo 440 = .ok (.iload 13, 2) := by decide +kernel
theorem dL_isSo_442 : decode cL_isSo 442 = .ok (.iload 4, 2) := by decide +kernel
theorem dL_isSo_444 : decode cL_isSo 444 = .ok (.iload 13, 2) := by decide +kernel
theorem dL_isSo_446 : decode cL_isSo 446 = .ok (.invokestatic 72, 3) := by decide +kernel
theorem dL_isSo_449 : decode cL_isSo 449 = .ok (.invokestatic 97, 3) := by decide +kernel
theorem dL_isSo_452 : decode cL_isSo 452 = .ok (.ifCond .eq 7, 3) := by decide +kernel
theorem dL_isSo_455 : decode cL_isSo 455 = .ok (.iconst 1, 1) := by decide +kernel
theorem dL_isSo_456 : decode cL_isSo 456 = .ok (.goto 4, 3) := by decide +kernel
theorem dL_isSo_459 : decode cL_isSo 459 = .ok (.iconst 0, 1) := by decide +kernel
theorem dL_isSo_460 : decode cL_isSo 460 = .ok (.iadd, 1) := by decide +kernel
theorem dL_isSo_461 : decode cL_isSo 461 = .ok (.istore 12, 2) := by decide +kernel
theorem dL_isSo_463 : decode cL_isSo 463 = .ok (.iinc 17 1, 3) := by decide +kernel
theorem dL_isSo_466 : decode cL_isSo 466 = .ok (.goto (-81), 3) := by decide +kernel
theorem dL_isSo_469 : decode cL_isSo 469 = .ok (.iinc 13 1, 3) := by decide +kernel
theorem dL_isSo_472 : decode cL_isSo 472 = .ok (.goto (-445), 3) := by decide +kernel
theorem dL_isSo_475 : decode cL_isSo 475 = .ok (.aload_n 0, 1) := by decide +kernel
theorem dL_isSo_476 : decode cL_isSo 476 = .ok (.iload_n 1, 1) := by decide +kernel
theorem dL_isSo_477 : decode cL_isSo 477 = .ok (.iconst 0, 1) := by decide +kernel
theorem dL_isSo_478 : decode cL_isSo 478 = .ok (.invokevirtual 100, 3) := by decide +kernel
theorem dL_isSo_481 : decode cL_isSo 481 = .ok (.iload_n 3, 1) := by decide +kernel
theorem dL_isSo_482 : decode cL_isSo 482 = .ok (.if_icmp .ne 111, 3) := by decide +kernel
theorem dL_isSo_485 : decode cL_isSo 485 = .ok (.aload_n 0, 1) := by decide +kernel
theorem dL_isSo_486 : decode cL_isSo 486 = .ok (.iload_n 1, 1) := by decide +kernel
theorem dL_isSo_487 : decode cL_isSo 487 = .ok (.iconst 1, 1) := by decide +kernel
theorem dL_isSo_488 : decode cL_isSo 488 = .ok (.invokevirtual 100, 3) := by decide +kernel
theorem dL_isSo_491 : decode cL_isSo 491 = .ok (.iload 4, 2) := by decide +kernel
theorem dL_isSo_493 : decode cL_isSo 493 = .ok (.invokestatic 75, 3) := by decide +kernel
theorem dL_isSo_496 : decode cL_isSo 496 = .ok (.if_icmp .ne 97, 3) := by decide +kernel
theorem dL_isSo_499 : decode cL_isSo 499 = .ok (.aload_n 0, 1) := by decide +kernel
theorem dL_isSo_500 : decode cL_isSo 500 = .ok (.iload_n 1, 1) := by decide +kernel
theorem dL_isSo_501 : decode cL_isSo 501 = .ok (.iconst 2, 1) := by decide +kernel
theorem dL_isSo_502 : decode cL_isSo 502 = .ok (.invokevirtual 100, 3) := by decide +kernel
theorem dL_isSo_505 : decode cL_isSo 505 = .ok (.iload 6, 2) := by decide +kernel
theorem dL_isSo_507 : decode cL_isSo 507 = .ok (.if_icmp .ne 86, 3) := by decide +kernel
theorem dL_isSo_510 : decode cL_isSo 510 = .ok (.aload_n 0, 1) := by decide +kernel
theorem dL_isSo_511 : decode cL_isSo 511 = .ok (.iload_n 1, 1) := by decide +kernel
theorem dL_isSo_512 : decode cL_isSo 512 = .ok (.iconst 3, 1) := by decide +kernel
theorem dL_isSo_513 : decode cL_isSo 513 = .ok (.invokevirtual 100, 3) := by decide +kernel
theorem dL_isSo_516 : decode cL_isSo 516 = .ok (.iload 7, 2) := by decide +kernel
theorem dL_isSo_518 : decode cL_isSo 518 = .ok (.if_icmp .ne 75, 3) := by decide +kernel
theorem dL_isSo_521 : decode cL_isSo 521 = .ok (.aload_n 0, 1) := by decide +kernel
theorem dL_isSo_522 : decode cL_isSo 522 = .ok (.iload_n 1, 1) := by decide +kernel
theorem dL_isSo_523 : decode cL_isSo 523 = .ok (.iconst 4, 1) := by decide +kernel
theorem dL_isSo_524 : decode cL_isSo 524 = .ok (.invokevirtual 100, 3) := by decide +kernel
theorem dL_isSo_527 : decode cL_isSo 527 = .ok (.iload 10, 2) := by decide +kernel
theorem dL_isSo_529 : decode cL_isSo 529 = .ok (.if_icmp .ne 64, 3) := by decide +kernel
theorem dL_isSo_532 : decode cL_isSo 532 = .ok (.aload_n 0, 1) := by decide +kernel
theorem dL_isSo_533 : decode cL_isSo 533 = .ok (.iload_n 1, 1) := by decide +kernel
theorem dL_isSo_534 : decode cL_isSo 534 = .ok (.iconst 5, 1) := by decide +kernel
theorem dL_isSo_535 : decode cL_isSo 535 = .ok (.invokevirtual 100, 3) := by decide +kernel
theorem dL_isSo_538 : decode cL_isSo 538 = .ok (.iload 8, 2) := by decide +kernel
theorem dL_isSo_540 : decode cL_isSo 540 = .ok (.if_icmp .ne 53, 3) := by decide +kernel
theorem dL_isSo_543 : decode cL_isSo 543 = .ok (.aload_n 0, 1) := by decide +kernel
theorem dL_isSo_544 : decode cL_isSo 544 = .ok (.iload_n 1, 1) := by decide +kernel
theorem dL_isSo_545 : decode cL_isSo 545 = .ok (.bipush 6, 2) := by decide +kernel
theorem dL_isSo_547 : decode cL_isSo 547 = .ok (.invokevirtual 100, 3) := by decide +kernel
theorem dL_isSo_550 : decode cL_isSo 550 = .ok (.iload 9, 2) := by decide +kernel
theorem dL_isSo_552 : decode cL_isSo 552 = .ok (.if_icmp .ne 41, 3) := by decide +kernel
theorem dL_isSo_555 : decode cL_isSo 555 = .ok (.aload_n 0, 1) := by decide +kernel
theorem dL_isSo_556 : decode cL_isSo 556 = .ok (.iload_n 1, 1) := by decide +kernel
theorem dL_isSo_557 : decode cL_isSo 557 = .ok (.bipush 9, 2) := by decide +kernel
theorem dL_isSo_559 : decode cL_isSo 559 = .ok (.invokevirtual 100, 3) := by decide +kernel
theorem dL_isSo_562 : decode cL_isSo 562 = .ok (.iload 11, 2) := by decide +kernel
theorem dL_isSo_564 : decode cL_isSo 564 = .ok (.if_icmp .ne 29, 3) := by decide +kernel
theorem dL_isSo_567 : decode cL_isSo 567 = .ok (.aload_n 0, 1) := by decide +kernel
theorem dL_isSo_568 : decode cL_isSo 568 = .ok (.iload_n 1, 1) := by decide +kernel
theorem dL_isSo_569 : decode cL_isSo 569 = .ok (.bipush 10, 2) := by decide +kernel
theorem dL_isSo_571 : decode cL_isSo 571 = .ok (.invokevirtual 100, 3) := by decide +kernel
theorem dL_isSo_574 : decode cL_isSo 574 = .ok (.iload 4, 2) := by decide +kernel
theorem dL_isSo_576 : decode cL_isSo 576 = .ok (.if_icmp .ne 17, 3) := by decide +kernel
theorem dL_isSo_579 : decode cL_isSo 579 = .ok (.aload_n 0, 1) := by decide +kernel
theorem dL_isSo_580 : decode cL_isSo 580 = .ok (.iload_n 1, 1) := by decide +kernel
theorem dL_isSo_581 : decode cL_isSo 581 = .ok (.invokevirtual 103, 3) := by decide +kernel
theorem dL_isSo_584 : decode cL_isSo 584 = .ok (.iload 12, 2) := by decide +kernel
theorem dL_isSo_586 : decode cL_isSo 586 = .ok (.if_icmp .ne 7, 3) := by decide +kernel
theorem dL_isSo_589 : decode cL_isSo 589 = .ok (.iconst 1, 1) := by decide +kernel
theorem dL_isSo_590 : decode cL_isSo 590 = .ok (.goto 4, 3) := by decide +kernel
theorem dL_isSo_593 : decode cL_isSo 593 = .ok (.iconst 0, 1) := by decide +kernel
theorem dL_isSo_594 : decode cL_isSo 594 = .ok (.ireturn, 1) := by decide +kernel
set_option maxRecDepth 20000 in
theorem ggL_isAhead_X5_setting : GoodIn wsL_isAhead wsX5_setting := goodIn_ca (goodIn_r _ [5, 6, 7, 8, 4, 9, 10, 11, 12, 13, 14, 15, 16, 17, 18, 19, 20, 213, 214, 215, 216, 217, 218, 219, 220, 221, 222, 223] (by decide +kernel) (by decide +kernel)) (goodIn_sub (fun _ h => List.mem_cons_of_mem _ (List.mem_append_left _ (List.mem_append_right _ h))) (by decide +kernel))
set_option maxRecDepth 20000 in
theorem gL_isAhead_X5_setting : GoodIn wsL_isAhead (wsV RL 82 RX5 yX5_setting wsX5_setting) := goodIn_app (goodIn_of _ (by decide +kernel)) ggL_isAhead_X5_setting
set_option maxRecDepth 20000 in
theorem ggL_isAhead_L_fixed : GoodIn wsL_isAhead wsL_fixed := goodIn_r _ [24, 25, 26, 23, 27, 28, 29, 30, 31] (by decide +kernel) (by decide +kernel)
set_option maxRecDepth 20000 in
theorem gL_isAhead_L_fixed : GoodIn wsL_isAhead (va_wsS RL 85 yL_fixed wsL_fixed) := goodIn_app (goodIn_of _ (by decide +kernel)) ggL_isAhead_L_fixed
set_option maxRecDepth 20000 in
theorem ggL_isAhead_L_low : GoodIn wsL_isAhead wsL_low := goodIn_r _ [34, 35] (by decide +kernel) (by decide +kernel)
set_option maxRecDepth 20000 in
theorem gL_isAhead_L_low : GoodIn wsL_isAhead (va_wsS RL 106 yL_low wsL_low) := goodIn_app (goodIn_of _ (by decide +kernel)) ggL_isAhead_L_low
set_option maxRecDepth 20000 in
theorem ggL_isAhead_L_fewest : GoodIn wsL_isAhead wsL_fewest := goodIn_r _ [38, 39, 40, 23, 41, 42, 43, 44, 45, 46, 47, 48, 49, 50, 51, 52, 53, 29, 30, 31, 54, 55, 56, 57, 58, 59] (by decide +kernel) (by decide +kernel)
set_option maxRecDepth 20000 in
theorem gL_isAhead_L_fewest : GoodIn wsL_isAhead (va_wsS RL 109 yL_fewest wsL_fewest) := goodIn_app (goodIn_of _ (by decide +kernel)) ggL_isAhead_L_fewest
set_option maxRecDepth 20000 in
theorem ggL_isAhead_X5_ifSimplified : GoodIn wsL_isAhead wsX5_ifSimplified := goodIn_ca (goodIn_ca (goodIn_r _ [63, 64, 6, 65, 66, 67, 4, 68, 69, 70, 71, 72, 10, 11, 73, 74, 75, 16, 76, 77, 78, 79, 80, 81, 82, 83, 84, 85, 86, 87, 88, 89, 90, 91, 92, 93, 94, 95, 96, 97, 98, 99, 100, 101, 102, 14, 15, 17, 18, 19, 20, 103, 104, 105, 106, 107, 108, 109, 110, 111, 112, 113, 114, 115, 116, 117, 118, 119, 120, 121, 122, 123, 124, 125, 126, 127, 128, 129, 130, 131, 132, 133, 134, 135, 136, 137, 138, 139, 140, 141, 142, 143, 144, 145, 146, 147, 148, 149, 150, 151, 152, 153, 154, 155, 156, 157, 158, 159, 160, 161, 162, 163, 164, 165, 166, 167, 168, 169, 170, 171, 172, 173, 174, 175, 176, 177, 178, 179, 180, 181, 182, 183, 184, 185, 186, 187, 188, 189, 190, 191, 192, 193, 194, 195, 196, 197, 198, 199, 200, 213, 214, 215, 216, 217, 218, 219, 220, 221, 222, 223, 224, 225, 226, 227, 228, 229] (by decide +kernel) (by decide +kernel)) (goodIn_sub (fun _ h => List.mem_cons_of_mem _ (List.mem_append_left _ (List.mem_append_right _ h))) (by decide +kernel))) (goodIn_sub (fun _ h => List.mem_cons_of_mem _ (List.mem_append_right _ h)) (by decide +kernel))
set_option maxRecDepth 20000 in
theorem gL_isAhead_X5_ifSimplified : GoodIn wsL_isAhead (wsV RL 112 RX5 yX5_ifSimplified wsX5_ifSimplified) := goodIn_app (goodIn_of _ (by decide +kernel)) ggL_isAhead_X5_ifSimplified
set_option maxRecDepth 20000 in
theorem ggL_isAhead_L_split : GoodIn wsL_isAhead wsL_split := goodIn_r _ [203, 48, 49, 23, 50, 51, 52, 53, 29, 30, 31, 54, 55, 56, 57, 58, 59] (by decide +kernel) (by decide +kernel)
set_option maxRecDepth 20000 in
theorem gL_isAhead_L_split : GoodIn wsL_isAhead (va_wsS RL 115 yL_split wsL_split) := goodIn_app (goodIn_of _ (by decide +kernel)) ggL_isAhead_L_split
set_option maxRecDepth 20000 in
theorem ggL_isAhead_L_ones : GoodIn wsL_isAhead wsL_ones := goodIn_r _ [41] (by decide +kernel) (by decide +kernel)
set_option maxRecDepth 20000 in
theorem gL_isAhead_L_ones : GoodIn wsL_isAhead (va_wsS RL 75 yL_ones wsL_ones) := goodIn_app (goodIn_of _ (by decide +kernel)) ggL_isAhead_L_ones
set_option maxRecDepth 20000 in
theorem ggL_isAhead_X5_leastBound : GoodIn wsL_isAhead wsX5_leastBound := goodIn_ca (goodIn_ca (goodIn_r _ [207, 64, 6, 65, 66, 67, 4, 68, 69, 70, 71, 72, 10, 11, 73, 74, 75, 16, 76, 77, 78, 79, 80, 81, 82, 83, 84, 85, 86, 87, 88, 89, 90, 91, 92, 93, 94, 95, 96, 97, 98, 99, 100, 101, 102, 14, 15, 17, 18, 19, 20, 103, 104, 105, 106, 107, 108, 109, 110, 111, 112, 113, 114, 115, 116, 117, 118, 119, 120, 121, 122, 123, 124, 125, 126, 127, 128, 129, 130, 131, 132, 133, 134, 135, 136, 137, 138, 139, 140, 208, 209, 210, 144, 211, 177, 178, 179, 180, 181, 150, 182, 183, 184, 185, 157, 158, 159, 160, 161, 162, 163, 164, 165, 166, 167, 168, 169, 170, 171, 172, 173, 174, 175, 176, 186, 187, 155, 156, 188, 189, 190, 191, 192, 193, 146, 147, 148, 149, 151, 152, 153, 154, 212, 195, 196, 197, 198, 199, 200, 213, 214, 215, 216, 217, 218, 219, 220, 221, 222, 223, 224, 225, 226, 227, 228, 229] (by decide +kernel) (by decide +kernel)) (goodIn_sub (fun _ h => List.mem_cons_of_mem _ (List.mem_append_left _ (List.mem_append_right _ h))) (by decide +kernel))) (goodIn_sub (fun _ h => List.mem_cons_of_mem _ (List.mem_append_right _ h)) (by decide +kernel))
set_option maxRecDepth 20000 in
theorem gL_isAhead_X5_leastBound : GoodIn wsL_isAhead (wsV RL 118 RX5 yX5_leastBound wsX5_leastBound) := goodIn_app (goodIn_of _ (by decide +kernel)) ggL_isAhead_X5_leastBound
theorem dL_isAhead_0 : decode cL_isAhead 0 = .ok (.iconst 0, 1) := by decide +kernel
theorem dL_isAhead_1 : decode cL_isAhead 1 = .ok (.istore 5, 2) := by decide +kernel
theorem dL_isAhead_3 : decode cL_isAhead 3 = .ok (.iconst 0, 1) := by decide +kernel
theorem dL_isAhead_4 : decode cL_isAhead 4 = .ok (.istore 6, 2) := by decide +kernel
theorem dL_isAhead_6 : decode cL_isAhead 6 = .ok (.iload 6, 2) := by decide +kernel
theorem dL_isAhead_8 : decode cL_isAhead 8 = .ok (.iload_n 3, 1) := by decide +kernel
theorem dL_isAhead_9 : decode cL_isAhead 9 = .ok (.if_icmp .ge 42, 3) := by decide +kernel
theorem dL_isAhead_12 : decode cL_isAhead 12 = .ok (.iload 5, 2) := by decide +kernel
theorem dL_isAhead_14 : decode cL_isAhead 14 = .ok (.aload_n 2, 1) := by decide +kernel
theorem dL_isAhead_15 : decode cL_isAhead 15 = .ok (.iload_n 3, 1) := by decide +kernel
theorem dL_isAhead_16 : decode cL_isAhead 16 = .ok (.iload 6, 2) := by decide +kernel
theorem dL_isAhead_18 : decode cL_isAhead 18 = .ok (.aload_n 0, 1) := by decide +kernel
theorem dL_isAhead_19 : decode cL_isAhead 19 = .ok (.iconst 1, 1) := by decide +kernel
theorem dL_isAhead_20 : decode cL_isAhead 20 = .ok (.invokevirtual 82, 3) := by decide +kernel
theorem dL_isAhead_23 : decode cL_isAhead 23 = .ok (.aload_n 0, 1) := by decide +kernel
theorem dL_isAhead_24 : decode cL_isAhead 24 = .ok (.iconst 2, 1) := by decide +kernel
theorem dL_isAhead_25 : decode cL_isAhead 25 = .ok (.invokevirtual 82, 3) := by decide +kernel
theorem dL_isAhead_28 : decode cL_isAhead 28 = .ok (.invokestatic 85, 3) := by decide +kernel
theorem dL_isAhead_31 : decode cL_isAhead 31 = .ok (.ifCond .le 10, 3) := by decide +kernel
theorem dL_isAhead_34 : decode cL_isAhead 34 = .ok (.iconst 1, 1) := by decide +kernel
theorem dL_isAhead_35 : decode cL_isAhead 35 = .ok (.iload 6, 2) := by decide +kernel
theorem dL_isAhead_37 : decode cL_isAhead 37 = .ok (.ishl, 1) := by decide +kernel
theorem dL_isAhead_38 : decode cL_isAhead 38 = .ok (.goto 4, 3) := by decide +kernel
theorem dL_isAhead_41 : decode cL_isAhead 41 = .ok (.iconst 0, 1) := by decide +kernel
theorem dL_isAhead_42 : decode cL_isAhead 42 = .ok (.ior, 1) := by decide +kernel
theorem dL_isAhead_43 : decode cL_isAhead 43 = .ok (.istore 5, 2) := by decide +kernel
theorem dL_isAhead_45 : decode cL_isAhead 45 = .ok (.iinc 6 1, 3) := by decide +kernel
theorem dL_isAhead_48 : decode cL_isAhead 48 = .ok (.goto (-42), 3) := by decide +kernel
theorem dL_isAhead_51 : decode cL_isAhead 51 = .ok (.iload 4, 2) := by decide +kernel
theorem dL_isAhead_53 : decode cL_isAhead 53 = .ok (.bipush 51, 2) := by decide +kernel
theorem dL_isAhead_55 : decode cL_isAhead 55 = .ok (.invokestatic 106, 3) := by decide +kernel
theorem dL_isAhead_58 : decode cL_isAhead 58 = .ok (.istore 6, 2) := by decide +kernel
theorem dL_isAhead_60 : decode cL_isAhead 60 = .ok (.aload_n 2, 1) := by decide +kernel
theorem dL_isAhead_61 : decode cL_isAhead 61 = .ok (.iload_n 3, 1) := by decide +kernel
theorem dL_isAhead_62 : decode cL_isAhead 62 = .ok (.iload 5, 2) := by decide +kernel
theorem dL_isAhead_64 : decode cL_isAhead 64 = .ok (.iload 6, 2) := by decide +kernel
theorem dL_isAhead_66 : decode cL_isAhead 66 = .ok (.invokestatic 109, 3) := by decide +kernel
theorem dL_isAhead_69 : decode cL_isAhead 69 = .ok (.istore 7, 2) := by decide +kernel
theorem dL_isAhead_71 : decode cL_isAhead 71 = .ok (.aload_n 0, 1) := by decide +kernel
theorem dL_isAhead_72 : decode cL_isAhead 72 = .ok (.iload_n 1, 1) := by decide +kernel
theorem dL_isAhead_73 : decode cL_isAhead 73 = .ok (.iload 6, 2) := by decide +kernel
theorem dL_isAhead_75 : decode cL_isAhead 75 = .ok (.iconst 0, 1) := by decide +kernel
theorem dL_isAhead_76 : decode cL_isAhead 76 = .ok (.invokevirtual 112, 3) := by decide +kernel
theorem dL_isAhead_79 : decode cL_isAhead 79 = .ok (.aload_n 2, 1) := by decide +kernel
theorem dL_isAhead_80 : decode cL_isAhead 80 = .ok (.iload_n 3, 1) := by decide +kernel
theorem dL_isAhead_81 : decode cL_isAhead 81 = .ok (.iload 5, 2) := by decide +kernel
theorem dL_isAhead_83 : decode cL_isAhead 83 = .ok (.iload 6, 2) := by decide +kernel
theorem dL_isAhead_85 : decode cL_isAhead 85 = .ok (.invokestatic 115, 3) := by decide +kernel
theorem dL_isAhead_88 : decode cL_isAhead 88 = .ok (.invokestatic 75, 3) := by decide +kernel
theorem dL_isAhead_91 : decode cL_isAhead 91 = .ok (.if_icmp .ne 19, 3) := by decide +kernel
theorem dL_isAhead_94 : decode cL_isAhead 94 = .ok (.aload_n 0, 1) := by decide +kernel
theorem dL_isAhead_95 : decode cL_isAhead 95 = .ok (.iload_n 1, 1) := by decide +kernel
theorem dL_isAhead_96 : decode cL_isAhead 96 = .ok (.iload 6, 2) := by decide +kernel
theorem dL_isAhead_98 : decode cL_isAhead 98 = .ok (.iconst 1, 1) := by decide +kernel
theorem dL_isAhead_99 : decode cL_isAhead 99 = .ok (.invokevirtual 112, 3) := by decide +kernel
theorem dL_isAhead_102 : decode cL_isAhead 102 = .ok (.iload 7, 2) := by decide +kernel
theorem dL_isAhead_104 : decode cL_isAhead 104 = .ok (.invokestatic 75, 3) := by decide +kernel
theorem dL_isAhead_107 : decode cL_isAhead 107 = .ok (.if_icmp .eq 5, 3) := by decide +kernel
theorem dL_isAhead_110 : decode cL_isAhead 110 = .ok (.iconst 0, 1) := by decide +kernel
theorem dL_isAhead_111 : decode cL_isAhead 111 = .ok (.ireturn, 1) := by decide +kernel
theorem dL_isAhead_112 : decode cL_isAhead 112 = .ok (.iconst 2, 1) := by decide +kernel
theorem dL_isAhead_113 : decode cL_isAhead 113 = .ok (.iload 4, 2) := by decide +kernel
theorem dL_isAhead_115 : decode cL_isAhead 115 = .ok (.bipush 6, 2) := by decide +kernel
theorem dL_isAhead_117 : decode cL_isAhead 117 = .ok (.ishr, 1) := by decide +kernel
theorem dL_isAhead_118 : decode cL_isAhead 118 = .ok (.bipush 8, 2) := by decide +kernel
theorem dL_isAhead_120 : decode cL_isAhead 120 = .ok (.invokestatic 106, 3) := by decide +kernel
theorem dL_isAhead_123 : decode cL_isAhead 123 = .ok (.iadd, 1) := by decide +kernel
theorem dL_isAhead_124 : decode cL_isAhead 124 = .ok (.istore 8, 2) := by decide +kernel
theorem dL_isAhead_126 : decode cL_isAhead 126 = .ok (.iconst 0, 1) := by decide +kernel
theorem dL_isAhead_127 : decode cL_isAhead 127 = .ok (.istore 9, 2) := by decide +kernel
theorem dL_isAhead_129 : decode cL_isAhead 129 = .ok (.iload 9, 2) := by decide +kernel
theorem dL_isAhead_131 : decode cL_isAhead 131 = .ok (.bipush 51, 2) := by decide +kernel
theorem dL_isAhead_133 : decode cL_isAhead 133 = .ok (.if_icmp .ge 26, 3) := by decide +kernel
theorem dL_isAhead_136 : decode cL_isAhead 136 = .ok (.aload_n 2, 1) := by decide +kernel
theorem dL_isAhead_137 : decode cL_isAhead 137 = .ok (.iload_n 3, 1) := by decide +kernel
theorem dL_isAhead_138 : decode cL_isAhead 138 = .ok (.iload 5, 2) := by decide +kernel
theorem dL_isAhead_140 : decode cL_isAhead 140 = .ok (.iload 9, 2) := by decide +kernel
theorem dL_isAhead_142 : decode cL_isAhead 142 = .ok (.invokestatic 115, 3) := by decide +kernel
theorem dL_isAhead_145 : decode cL_isAhead 145 = .ok (.invokestatic 75, 3) := by decide +kernel
theorem dL_isAhead_148 : decode cL_isAhead 148 = .ok (.iload 8, 2) := by decide +kernel
theorem dL_isAhead_150 : decode cL_isAhead 150 = .ok (.if_icmp .le 9, 3) := by decide +kernel
theorem dL_isAhead_153 : decode cL_isAhead 153 = .ok (.iinc 9 1, 3) := by decide +kernel
theorem dL_isAhead_156 : decode cL_isAhead 156 = .ok (.goto (-27), 3) := by decide +kernel
theorem dL_isAhead_159 : decode cL_isAhead 159 = .ok (.aload_n 0, 1) := by decide +kernel
theorem dL_isAhead_160 : decode cL_isAhead 160 = .ok (.iload_n 1, 1) := by decide +kernel
theorem dL_isAhead_161 : decode cL_isAhead 161 = .ok (.iload 8, 2) := by decide +kernel
theorem dL_isAhead_163 : decode cL_isAhead 163 = .ok (.iconst 0, 1) := by decide +kernel
theorem dL_isAhead_164 : decode cL_isAhead 164 = .ok (.invokevirtual 118, 3) := by decide +kernel
theorem dL_isAhead_167 : decode cL_isAhead 167 = .ok (.iload 9, 2) := by decide +kernel
theorem dL_isAhead_169 : decode cL_isAhead 169 = .ok (.bipush 50, 2) := by decide +kernel
theorem dL_isAhead_171 : decode cL_isAhead 171 = .ok (.if_icmp .le 7, 3) := by decide +kernel
theorem dL_isAhead_174 : decode cL_isAhead 174 = .ok (.iconst (-1), 1) := by decide +kernel
theorem dL_isAhead_175 : decode cL_isAhead 175 = .ok (.goto 5, 3) := by decide +kernel
theorem dL_isAhead_178 : decode cL_isAhead 178 = .ok (.iload 9, 2) := by decide +kernel
theorem dL_isAhead_180 : decode cL_isAhead 180 = .ok (.if_icmp .eq 5, 3) := by decide +kernel
theorem dL_isAhead_183 : decode cL_isAhead 183 = .ok (.iconst 0, 1) := by decide +kernel
theorem dL_isAhead_184 : decode cL_isAhead 184 = .ok (.ireturn, 1) := by decide +kernel
theorem dL_isAhead_185 : decode cL_isAhead 185 = .ok (.aload_n 0, 1) := by decide +kernel
theorem dL_isAhead_186 : decode cL_isAhead 186 = .ok (.iload_n 1, 1) := by decide +kernel
theorem dL_isAhead_187 : decode cL_isAhead 187 = .ok (.iload 8, 2) := by decide +kernel
theorem dL_isAhead_189 : decode cL_isAhead 189 = .ok (.iconst 1, 1) := by decide +kernel
theorem dL_isAhead_190 : decode cL_isAhead 190 = .ok (.invokevirtual 118, 3) := by decide +kernel
theorem dL_isAhead_193 : decode cL_isAhead 193 = .ok (.istore 9, 2) := by decide +kernel
theorem dL_isAhead_195 : decode cL_isAhead 195 = .ok (.iload 9, 2) := by decide +kernel
theorem dL_isAhead_197 : decode cL_isAhead 197 = .ok (.ifCond .ge 28, 3) := by decide +kernel
theorem dL_isAhead_200 : decode cL_isAhead 200 = .ok (.aload_n 2, 1) := by decide +kernel
theorem dL_isAhead_201 : decode cL_isAhead 201 = .ok (.iload_n 3, 1) := by decide +kernel
theorem dL_isAhead_202 : decode cL_isAhead 202 = .ok (.iload 5, 2) := by decide +kernel
theorem dL_isAhead_204 : decode cL_isAhead 204 = .ok (.bipush 50, 2) := by decide +kernel
theorem dL_isAhead_206 : decode cL_isAhead 206 = .ok (.invokestatic 109, 3) := by decide +kernel
theorem dL_isAhead_209 : decode cL_isAhead 209 = .ok (.invokestatic 75, 3) := by decide +kernel
theorem dL_isAhead_212 : decode cL_isAhead 212 = .ok (.iload 8, 2) := by decide +kernel
theorem dL_isAhead_214 : decode cL_isAhead 214 = .ok (.if_icmp .le 7, 3) := by decide +kernel
theorem dL_isAhead_217 : decode cL_isAhead 217 = .ok (.iconst 1, 1) := by decide +kernel
theorem dL_isAhead_218 : decode cL_isAhead 218 = .ok (.goto 53, 3) := by decide +kernel
theorem dL_isAhead_221 : decode cL_isAhead 221 = .ok (.iconst 0, 1) := by decide +kernel
theorem dL_isAhead_222 : decode cL_isAhead 222 = .ok (.goto 49, 3) := by decide +kernel
theorem dL_isAhead_225 : decode cL_isAhead 225 = .ok (.aload_n 2, 1) := by decide +kernel
theorem dL_isAhead_226 : decode cL_isAhead 226 = .ok (.iload_n 3, 1) := by decide +kernel
theorem dL_isAhead_227 : decode cL_isAhead 227 = .ok (.iload 5, 2) := by decide +kernel
theorem dL_isAhead_229 : decode cL_isAhead 229 = .ok (.iload 9, 2) := by decide +kernel
theorem dL_isAhead_231 : decode cL_isAhead 231 = .ok (.invokestatic 109, 3) := by decide +kernel
theorem dL_isAhead_234 : decode cL_isAhead 234 = .ok (.invokestatic 75, 3) := by decide +kernel
theorem dL_isAhead_237 : decode cL_isAhead 237 = .ok (.iload 8, 2) := by decide +kernel
theorem dL_isAhead_239 : decode cL_isAhead 239 = .ok (.if_icmp .gt 31, 3) := by decide +kernel
theorem dL_isAhead_242 : decode cL_isAhead 242 = .ok (.iload 9, 2) := by decide +kernel
theorem dL_isAhead_244 : decode cL_isAhead 244 = .ok (.ifCond .eq 22, 3) := by decide +kernel
theorem dL_isAhead_247 : decode cL_isAhead 247 = .ok (.aload_n 2, 1) := by decide +kernel
theorem dL_isAhead_248 : decode cL_isAhead 248 = .ok (.iload_n 3, 1) := by decide +kernel
theorem dL_isAhead_249 : decode cL_isAhead 249 = .ok (.iload 5, 2) := by decide +kernel
theorem dL_isAhead_251 : decode cL_isAhead 251 = .ok (.iload 9, 2) := by decide +kernel
theorem dL_isAhead_253 : decode cL_isAhead 253 = .ok (.iconst 1, 1) := by decide +kernel
theorem dL_isAhead_254 : decode cL_isAhead 254 = .ok (.isub, 1) := by decide +kernel
theorem dL_isAhead_255 : decode cL_isAhead 255 = .ok (.invokestatic 109, 3) := by decide +kernel
theorem dL_isAhead_258 : decode cL_isAhead 258 = .ok (.invokestatic 75, 3) := by decide +kernel
theorem dL_isAhead_261 : decode cL_isAhead 261 = .ok (.iload 8, 2) := by decide +kernel
theorem dL_isAhead_263 : decode cL_isAhead 263 = .ok (.if_icmp .le 7, 3) := by decide +kernel
theorem dL_isAhead_266 : decode cL_isAhead 266 = .ok (.iconst 1, 1) := by decide +kernel
theorem dL_isAhead_267 : decode cL_isAhead 267 = .ok (.goto 4, 3) := by decide +kernel
theorem dL_isAhead_270 : decode cL_isAhead 270 = .ok (.iconst 0, 1) := by decide +kernel
theorem dL_isAhead_271 : decode cL_isAhead 271 = .ok (.ireturn, 1) := by decide +kernel
theorem dL_put_0 : decode cL_put 0 = .ok (.aload_n 0, 1) := by decide +kernel
theorem dL_put_1 : decode cL_put 1 = .ok (.iconst 3, 1) := by decide +kernel
theorem dL_put_2 : decode cL_put 2 = .ok (.iload_n 1, 1) := by decide +kernel
theorem dL_put_3 : decode cL_put 3 = .ok (.imul, 1) := by decide +kernel
theorem dL_put_4 : decode cL_put 4 = .ok (.iload_n 2, 1) := by decide +kernel
theorem dL_put_5 : decode cL_put 5 = .ok (.iastore, 1) := by decide +kernel
theorem dL_put_6 : decode cL_put 6 = .ok (.aload_n 0, 1) := by decide +kernel
theorem dL_put_7 : decode cL_put 7 = .ok (.iconst 3, 1) := by decide +kernel
theorem dL_put_8 : decode cL_put 8 = .ok (.iload_n 1, 1) := by decide +kernel
theorem dL_put_9 : decode cL_put 9 = .ok (.imul, 1) := by decide +kernel
theorem dL_put_10 : decode cL_put 10 = .ok (.iconst 1, 1) := by decide +kernel
theorem dL_put_11 : decode cL_put 11 = .ok (.iadd, 1) := by decide +kernel
theorem dL_put_12 : decode cL_put 12 = .ok (.iload_n 3, 1) := by decide +kernel
theorem dL_put_13 : decode cL_put 13 = .ok (.iastore, 1) := by decide +kernel
theorem dL_put_14 : decode cL_put 14 = .ok (.aload_n 0, 1) := by decide +kernel
theorem dL_put_15 : decode cL_put 15 = .ok (.iconst 3, 1) := by decide +kernel
theorem dL_put_16 : decode cL_put 16 = .ok (.iload_n 1, 1) := by decide +kernel
theorem dL_put_17 : decode cL_put 17 = .ok (.imul, 1) := by decide +kernel
theorem dL_put_18 : decode cL_put 18 = .ok (.iconst 2, 1) := by decide +kernel
theorem dL_put_19 : decode cL_put 19 = .ok (.iadd, 1) := by decide +kernel
theorem dL_put_20 : decode cL_put 20 = .ok (.iload 4, 2) := by decide +kernel
theorem dL_put_22 : decode cL_put 22 = .ok (.iastore, 1) := by decide +kernel
theorem dL_put_23 : decode cL_put 23 = .ok (.return_, 1) := by decide +kernel
