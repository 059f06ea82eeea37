set_option maxRecDepth 20000 in
theorem ggX5_init_X1_init : GoodIn wsX5_init wsX1_init := goodIn_r _ [23, 24, 2, 3, 25, 26, 27, 28, 29, 30, 31, 32, 33, 34, 35, 36, 37, 38, 39, 40, 41, 42, 64, 65, 66, 67, 68, 69, 89, 90, 91] (by decide +kernel) (by decide +kernel)
set_option maxRecDepth 20000 in
theorem gX5_init_X1_init : GoodIn wsX5_init (wsX1_init) := ggX5_init_X1_init
set_option maxRecDepth 20000 in
theorem ggX5_init_X0_init : GoodIn wsX5_init wsX0_init := goodIn_r _ [45, 46, 2, 3, 47, 48, 75, 76, 77] (by decide +kernel) (by decide +kernel)
set_option maxRecDepth 20000 in
theorem gX5_init_X0_init : GoodIn wsX5_init (wsX0_init) := ggX5_init_X0_init
set_option maxRecDepth 20000 in
theorem ggX5_init_X4_init : GoodIn wsX5_init wsX4_init := goodIn_r _ [51, 52, 2, 3, 41, 53, 54, 27, 28, 55, 56, 38, 39, 40, 42, 78, 79, 80, 81, 82, 83, 84, 85, 89, 90, 91] (by decide +kernel) (by decide +kernel)
set_option maxRecDepth 20000 in
theorem gX5_init_X4_init : GoodIn wsX5_init (wsX4_init) := ggX5_init_X4_init
set_option maxRecDepth 20000 in
theorem ggX5_init_X2_init : GoodIn wsX5_init wsX2_init := goodIn_r _ [59, 60, 2, 3, 41, 61, 62, 63, 86, 87, 88] (by decide +kernel) (by decide +kernel)
set_option maxRecDepth 20000 in
theorem gX5_init_X2_init : GoodIn wsX5_init (wsX2_init) := ggX5_init_X2_init
theorem dX5_init_0 : decode cX5_init 0 = .ok (.aload_n 0, 1) := by decide +kernel
theorem dX5_init_1 : decode cX5_init 1 = .ok (.invokespecial 1, 3) := by decide +kernel
theorem dX5_init_4 : decode cX5_init 4 = .ok (.aload_n 0, 1) := by decide +kernel
theorem dX5_init_5 : decode cX5_init 5 = .ok (.new 7, 3) := by decide +kernel
theorem dX5_init_8 : decode cX5_init 8 = .ok (.dup, 1) := by decide +kernel
theorem dX5_init_9 : decode cX5_init 9 = .ok (.invokespecial 9, 3) := by decide +kernel
theorem dX5_init_12 : decode cX5_init 12 = .ok (.putfield 10, 3) := by decide +kernel
theorem dX5_init_15 : decode cX5_init 15 = .ok (.aload_n 0, 1) := by decide +kernel
theorem dX5_init_16 : decode cX5_init 16 = .ok (.new 16, 3) := by decide +kernel
theorem dX5_init_19 : decode cX5_init 19 = .ok (.dup, 1) := by decide +kernel
theorem dX5_init_20 : decode cX5_init 20 = .ok (.invokespecial 18, 3) := by decide +kernel
theorem dX5_init_23 : decode cX5_init 23 = .ok (.putfield 19, 3) := by decide +kernel
theorem dX5_init_26 : decode cX5_init 26 = .ok (.aload_n 0, 1) := by decide +kernel
theorem dX5_init_27 : decode cX5_init 27 = .ok (.iconst 2, 1) := by decide +kernel
theorem dX5_init_28 : decode cX5_init 28 = .ok (.anewarray 7, 3) := by decide +kernel
theorem dX5_init_31 : decode cX5_init 31 = .ok (.putfield 23, 3) := by decide +kernel
theorem dX5_init_34 : decode cX5_init 34 = .ok (.aload_n 0, 1) := by decide +kernel
theorem dX5_init_35 : decode cX5_init 35 = .ok (.new 27, 3) := by decide +kernel
theorem dX5_init_38 : decode cX5_init 38 = .ok (.dup, 1) := by decide +kernel
theorem dX5_init_39 : decode cX5_init 39 = .ok (.invokespecial 29, 3) := by decide +kernel
theorem dX5_init_42 : decode cX5_init 42 = .ok (.putfield 30, 3) := by decide +kernel
theorem dX5_init_45 : decode cX5_init 45 = .ok (.aload_n 0, 1) := by decide +kernel
theorem dX5_init_46 : decode cX5_init 46 = .ok (.new 34, 3) := by decide +kernel
theorem dX5_init_49 : decode cX5_init 49 = .ok (.dup, 1) := by decide +kernel
theorem dX5_init_50 : decode cX5_init 50 = .ok (.invokespecial 36, 3) := by decide +kernel
theorem dX5_init_53 : decode cX5_init 53 = .ok (.putfield 37, 3) := by decide +kernel
theorem dX5_init_56 : decode cX5_init 56 = .ok (.return_, 1) := by decide +kernel
set_option maxRecDepth 20000 in
theorem ggX5_stroke_X5_requirePlace : GoodIn wsX5_stroke wsX5_requirePlace := goodIn_ca (goodIn_r _ [6, 7, 8, 5, 9, 10, 11] (by decide +kernel) (by decide +kernel)) (goodIn_sub (fun _ h => List.mem_cons_of_mem _ (List.mem_append_left _ (List.mem_append_right _ h))) (by decide +kernel))
set_option maxRecDepth 20000 in
theorem gX5_stroke_X5_requirePlace : GoodIn wsX5_stroke (va_wsS RX5 41 yX5_requirePlace wsX5_requirePlace) := goodIn_app (goodIn_of _ (by decide +kernel)) ggX5_stroke_X5_requirePlace
set_option maxRecDepth 20000 in
theorem ggX5_stroke_X5_requireRoomForStroke : GoodIn wsX5_stroke wsX5_requireRoomForStroke := goodIn_ca (goodIn_r _ [15, 16, 17, 2, 18, 19, 20, 21, 22, 23, 104, 105, 106, 107, 108, 109, 110, 111, 112, 113, 114] (by decide +kernel) (by decide +kernel)) (goodIn_sub (fun _ h => List.mem_cons_of_mem _ (List.mem_append_right _ h)) (by decide +kernel))
set_option maxRecDepth 20000 in
theorem gX5_stroke_X5_requireRoomForStroke : GoodIn wsX5_stroke (wsV RX5 45 RX5 yX5_requireRoomForStroke wsX5_requireRoomForStroke) := goodIn_app (goodIn_of _ (by decide +kernel)) ggX5_stroke_X5_requireRoomForStroke
set_option maxRecDepth 20000 in
theorem ggX5_stroke_X0_save : GoodIn wsX5_stroke wsX0_save := goodIn_r _ [28, 29, 30, 31, 32, 33, 21, 34, 35, 36, 37, 38, 39, 40, 41, 42, 43, 44, 45, 46, 47, 48, 49, 50, 51, 52, 53, 54, 55, 56, 57, 58, 59, 60, 61, 23, 62, 63, 64, 65, 66, 67, 68, 69, 70, 71, 72, 73, 74, 5, 75, 76, 77, 78, 79, 80, 81, 82, 83, 115, 116, 117, 109, 110, 111, 112, 113, 114, 118, 119, 120] (by decide +kernel) (by decide +kernel)
set_option maxRecDepth 20000 in
theorem gX5_stroke_X0_save : GoodIn wsX5_stroke (wsV RX5 48 RX0 yX0_save wsX0_save) := goodIn_app (goodIn_of _ (by decide +kernel)) ggX5_stroke_X0_save
set_option maxRecDepth 20000 in
theorem ggX5_stroke_X1_openStroke : GoodIn wsX5_stroke wsX1_openStroke := goodIn_r _ [87, 23, 64, 65, 66, 21, 67, 41, 44, 88, 89, 90, 43, 91, 72, 73, 109, 110, 111, 112, 113, 114, 118, 119, 120] (by decide +kernel) (by decide +kernel)
set_option maxRecDepth 20000 in
theorem gX5_stroke_X1_openStroke : GoodIn wsX5_stroke (wsV RX5 52 RX1 yX1_openStroke wsX1_openStroke) := goodIn_app (goodIn_of _ (by decide +kernel)) ggX5_stroke_X1_openStroke
set_option maxRecDepth 20000 in
theorem ggX5_stroke_X3_addPoint : GoodIn wsX5_stroke wsX3_addPoint := goodIn_r _ [95, 72, 96, 97, 98, 43, 99, 57, 100, 101, 102, 103, 73, 118, 119, 120] (by decide +kernel) (by decide +kernel)
set_option maxRecDepth 20000 in
theorem gX5_stroke_X3_addPoint : GoodIn wsX5_stroke (wsV RX5 56 RX3 yX3_addPoint wsX3_addPoint) := goodIn_app (goodIn_of _ (by decide +kernel)) ggX5_stroke_X3_addPoint
set_option maxRecDepth 20000 in
theorem ggX5_stroke_X1_strokeCount : GoodIn wsX5_stroke wsX1_strokeCount := goodIn_r _ [22, 23, 109, 110, 111, 112, 113, 114] (by decide +kernel) (by decide +kernel)
set_option maxRecDepth 20000 in
theorem gX5_stroke_X1_strokeCount : GoodIn wsX5_stroke (wsV RX5 62 RX1 yX1_strokeCount wsX1_strokeCount) := goodIn_app (goodIn_of _ (by decide +kernel)) ggX5_stroke_X1_strokeCount
theorem dX5_stroke_0 : decode cX5_stroke 0 = .ok (.iload_n 1, 1) := by decide +kernel
theorem dX5_stroke_1 : decode cX5_stroke 1 = .ok (.iload_n 2, 1) := by decide +kernel
theorem dX5_stroke_2 : decode cX5_stroke 2 = .ok (.invokestatic 41, 3) := by decide +kernel
theorem dX5_stroke_5 : decode cX5_stroke 5 = .ok (.iload_n 3, 1) := by decide +kernel
theorem dX5_stroke_6 : decode cX5_stroke 6 = .ok (.iload 4, 2) := by decide +kernel
theorem dX5_stroke_8 : decode cX5_stroke 8 = .ok (.invokestatic 41, 3) := by decide +kernel
theorem dX5_stroke_11 : decode cX5_stroke 11 = .ok (.aload_n 0, 1) := by decide +kernel
theorem dX5_stroke_12 : decode cX5_stroke 12 = .ok (.invokevirtual 45, 3) := by decide +kernel
theorem dX5_stroke_15 : decode cX5_stroke 15 = .ok (.aload_n 0, 1) := by decide +kernel
theorem dX5_stroke_16 : decode cX5_stroke 16 = .ok (.getfield 19, 3) := by decide +kernel
theorem dX5_stroke_19 : decode cX5_stroke 19 = .ok (.aload_n 0, 1) := by decide +kernel
theorem dX5_stroke_20 : decode cX5_stroke 20 = .ok (.getfield 10, 3) := by decide +kernel
theorem dX5_stroke_23 : decode cX5_stroke 23 = .ok (.invokevirtual 48, 3) := by decide +kernel
theorem dX5_stroke_26 : decode cX5_stroke 26 = .ok (.aload_n 0, 1) := by decide +kernel
theorem dX5_stroke_27 : decode cX5_stroke 27 = .ok (.getfield 10, 3) := by decide +kernel
theorem dX5_stroke_30 : decode cX5_stroke 30 = .ok (.invokevirtual 52, 3) := by decide +kernel
theorem dX5_stroke_33 : decode cX5_stroke 33 = .ok (.astore 5, 2) := by decide +kernel
theorem dX5_stroke_35 : decode cX5_stroke 35 = .ok (.aload 5, 2) := by decide +kernel
theorem dX5_stroke_37 : decode cX5_stroke 37 = .ok (.iload_n 1, 1) := by decide +kernel
theorem dX5_stroke_38 : decode cX5_stroke 38 = .ok (.iload_n 2, 1) := by decide +kernel
theorem dX5_stroke_39 : decode cX5_stroke 39 = .ok (.iconst 5, 1) := by decide +kernel
theorem dX5_stroke_40 : decode cX5_stroke 40 = .ok (.invokevirtual 56, 3) := by decide +kernel
theorem dX5_stroke_43 : decode cX5_stroke 43 = .ok (.aload 5, 2) := by decide +kernel
theorem dX5_stroke_45 : decode cX5_stroke 45 = .ok (.iload_n 3, 1) := by decide +kernel
theorem dX5_stroke_46 : decode cX5_stroke 46 = .ok (.iload 4, 2) := by decide +kernel
theorem dX5_stroke_48 : decode cX5_stroke 48 = .ok (.iconst 5, 1) := by decide +kernel
theorem dX5_stroke_49 : decode cX5_stroke 49 = .ok (.invokevirtual 56, 3) := by decide +kernel
theorem dX5_stroke_52 : decode cX5_stroke 52 = .ok (.aload_n 0, 1) := by decide +kernel
theorem dX5_stroke_53 : decode cX5_stroke 53 = .ok (.getfield 10, 3) := by decide +kernel
theorem dX5_stroke_56 : decode cX5_stroke 56 = .ok (.invokevirtual 62, 3) := by decide +kernel
theorem dX5_stroke_59 : decode cX5_stroke 59 = .ok (.iconst 1, 1) := by decide +kernel
theorem dX5_stroke_60 : decode cX5_stroke 60 = .ok (.isub, 1) := by decide +kernel
theorem dX5_stroke_61 : decode cX5_stroke 61 = .ok (.ireturn, 1) := by decide +kernel
set_option maxRecDepth 20000 in
theorem ggX5_insert_X5_existingStroke : GoodIn wsX5_insert wsX5_existingStroke := goodIn_ca (goodIn_r _ [11, 6, 12, 13, 14, 10, 15, 1, 2, 16, 17, 18, 19, 20, 21, 22, 23, 24, 25, 26, 27, 122, 123, 124, 125, 126, 127, 128, 129, 130, 131, 132] (by decide +kernel) (by decide +kernel)) (goodIn_sub (fun _ h => List.mem_cons_of_mem _ (List.mem_append_left _ (List.mem_append_left _ (List.mem_append_right _ h)))) (by decide +kernel))
set_option maxRecDepth 20000 in
theorem gX5_insert_X5_existingStroke : GoodIn wsX5_insert (wsV RX5 87 RX5 yX5_existingStroke wsX5_existingStroke) := goodIn_app (goodIn_of _ (by decide +kernel)) ggX5_insert_X5_existingStroke
set_option maxRecDepth 20000 in
theorem ggX5_insert_X3_size : GoodIn wsX5_insert wsX3_size := goodIn_r _ [32, 33, 133, 134, 135] (by decide +kernel) (by decide +kernel)
set_option maxRecDepth 20000 in
theorem gX5_insert_X3_size : GoodIn wsX5_insert (wsV RX5 91 RX3 yX3_size wsX3_size) := goodIn_app (goodIn_of _ (by decide +kernel)) ggX5_insert_X3_size
set_option maxRecDepth 20000 in
theorem ggX5_insert_X5_requirePlace : GoodIn wsX5_insert wsX5_requirePlace := goodIn_ca (goodIn_r _ [36, 37, 38, 10, 39, 40, 41] (by decide +kernel) (by decide +kernel)) (goodIn_sub (fun _ h => List.mem_cons_of_mem _ (List.mem_append_right _ h)) (by decide +kernel))
set_option maxRecDepth 20000 in
theorem gX5_insert_X5_requirePlace : GoodIn wsX5_insert (va_wsS RX5 41 yX5_requirePlace wsX5_requirePlace) := goodIn_app (goodIn_of _ (by decide +kernel)) ggX5_insert_X5_requirePlace
set_option maxRecDepth 20000 in
theorem ggX5_insert_X5_requireWidth : GoodIn wsX5_insert wsX5_requireWidth := goodIn_ca (goodIn_r _ [44, 37, 38, 10, 39, 40, 41] (by decide +kernel) (by decide +kernel)) (goodIn_sub (fun _ h => List.mem_cons_of_mem _ (List.mem_append_right _ h)) (by decide +kernel))
set_option maxRecDepth 20000 in
theorem gX5_insert_X5_requireWidth : GoodIn wsX5_insert (va_wsS RX5 99 yX5_requireWidth wsX5_requireWidth) := goodIn_app (goodIn_of _ (by decide +kernel)) ggX5_insert_X5_requireWidth
set_option maxRecDepth 20000 in
theorem ggX5_insert_X0_save : GoodIn wsX5_insert wsX0_save := goodIn_r _ [49, 50, 51, 52, 53, 54, 19, 55, 56, 57, 58, 59, 60, 61, 26, 62, 31, 27, 63, 64, 65, 66, 67, 68, 69, 70, 71, 72, 73, 74, 75, 76, 77, 78, 79, 21, 80, 81, 82, 23, 24, 25, 83, 84, 85, 86, 33, 87, 88, 10, 89, 90, 91, 92, 93, 94, 95, 96, 97, 136, 137, 138, 127, 128, 129, 130, 131, 132, 133, 134, 135] (by decide +kernel) (by decide +kernel)
set_option maxRecDepth 20000 in
theorem gX5_insert_X0_save : GoodIn wsX5_insert (wsV RX5 48 RX0 yX0_save wsX0_save) := goodIn_app (goodIn_of _ (by decide +kernel)) ggX5_insert_X0_save
set_option maxRecDepth 20000 in
theorem ggX5_insert_X3_insertPoint : GoodIn wsX5_insert wsX3_insertPoint := goodIn_r _ [101, 33, 102, 103, 104, 31, 105, 75, 106, 107, 108, 109, 110, 111, 112, 113, 114, 115, 116, 117, 118, 119, 120, 121, 87, 133, 134, 135] (by decide +kernel) (by decide +kernel)
set_option maxRecDepth 20000 in
theorem gX5_insert_X3_insertPoint : GoodIn wsX5_insert (wsV RX5 108 RX3 yX3_insertPoint wsX3_insertPoint) := goodIn_app (goodIn_of _ (by decide +kernel)) ggX5_insert_X3_insertPoint
theorem dX5_insert_0 : decode cX5_insert 0 = .ok (.aload_n 0, 1) := by decide +kernel
theorem dX5_insert_1 : decode cX5_insert 1 = .ok (.iload_n 1, 1) := by decide +kernel
theorem dX5_insert_2 : decode cX5_insert 2 = .ok (.invokevirtual 87, 3) := by decide +kernel
theorem dX5_insert_5 : decode cX5_insert 5 = .ok (.astore 6, 2) := by decide +kernel
theorem dX5_insert_7 : decode cX5_insert 7 = .ok (.iload_n 2, 1) := by decide +kernel
theorem dX5_insert_8 : decode cX5_insert 8 = .ok (.ifCond .lt 12, 3) := by decide +kernel
theorem dX5_insert_11 : decode cX5_insert 11 = .ok (.iload_n 2, 1) := by decide +kernel
theorem dX5_insert_12 : decode cX5_insert 12 = .ok (.aload 6, 2) := by decide +kernel
theorem dX5_insert_14 : decode cX5_insert 14 = .ok (.invokevirtual 91, 3) := by decide +kernel
theorem dX5_insert_17 : decode cX5_insert 17 = .ok (.if_icmp .le 13, 3) := by decide +kernel
theorem dX5_insert_20 : decode cX5_insert 20 = .ok (.new 94, 3) := by decide +kernel
theorem dX5_insert_23 : decode cX5_insert 23 = .ok (.dup, 1) := by decide +kernel
theorem dX5_insert_24 : decode cX5_insert 24 = .ok (.ldc 96, 2) := by decide +kernel
theorem dX5_insert_26 : decode cX5_insert 26 = .ok (.invokespecial 98, 3) := by decide +kernel
theorem dX5_insert_29 : decode cX5_insert 29 = .ok (.athrow, 1) := by decide +kernel
theorem dX5_insert_30 : decode cX5_insert 30 = .ok (.iload_n 3, 1) := by decide +kernel
theorem dX5_insert_31 : decode cX5_insert 31 = .ok (.iload 4, 2) := by decide +kernel
theorem dX5_insert_33 : decode cX5_insert 33 = .ok (.invokestatic 41, 3) := by decide +kernel
theorem dX5_insert_36 : decode cX5_insert 36 = .ok (.iload 5, 2) := by decide +kernel
theorem dX5_insert_38 : decode cX5_insert 38 = .ok (.invokestatic 99, 3) := by decide +kernel
theorem dX5_insert_41 : decode cX5_insert 41 = .ok (.aload 6, 2) := by decide +kernel
theorem dX5_insert_43 : decode cX5_insert 43 = .ok (.invokevirtual 91, 3) := by decide +kernel
theorem dX5_insert_46 : decode cX5_insert 46 = .ok (.bipush 24, 2) := by decide +kernel
theorem dX5_insert_48 : decode cX5_insert 48 = .ok (.if_icmp .lt 13, 3) := by decide +kernel
theorem dX5_insert_51 : decode cX5_insert 51 = .ok (.new 103, 3) := by decide +kernel
theorem dX5_insert_54 : decode cX5_insert 54 = .ok (.dup, 1) := by decide +kernel
theorem dX5_insert_55 : decode cX5_insert 55 = .ok (.ldc 105, 2) := by decide +kernel
theorem dX5_insert_57 : decode cX5_insert 57 = .ok (.invokespecial 107, 3) := by decide +kernel
theorem dX5_insert_60 : decode cX5_insert 60 = .ok (.athrow, 1) := by decide +kernel
theorem dX5_insert_61 : decode cX5_insert 61 = .ok (.aload_n 0, 1) := by decide +kernel
theorem dX5_insert_62 : decode cX5_insert 62 = .ok (.getfield 19, 3) := by decide +kernel
theorem dX5_insert_65 : decode cX5_insert 65 = .ok (.aload_n 0, 1) := by decide +kernel
theorem dX5_insert_66 : decode cX5_insert 66 = .ok (.getfield 10, 3) := by decide +kernel
theorem dX5_insert_69 : decode cX5_insert 69 = .ok (.invokevirtual 48, 3) := by decide +kernel
theorem dX5_insert_72 : decode cX5_insert 72 = .ok (.aload 6, 2) := by decide +kernel
theorem dX5_insert_74 : decode cX5_insert 74 = .ok (.iload_n 2, 1) := by decide +kernel
theorem dX5_insert_75 : decode cX5_insert 75 = .ok (.iload_n 3, 1) := by decide +kernel
theorem dX5_insert_76 : decode cX5_insert 76 = .ok (.iload 4, 2) := by decide +kernel
theorem dX5_insert_78 : decode cX5_insert 78 = .ok (.iload 5, 2) := by decide +kernel
theorem dX5_insert_80 : decode cX5_insert 80 = .ok (.invokevirtual 108, 3) := by decide +kernel
theorem dX5_insert_83 : decode cX5_insert 83 = .ok (.aload 6, 2) := by decide +kernel
theorem dX5_insert_85 : decode cX5_insert 85 = .ok (.invokevirtual 91, 3) := by decide +kernel
theorem dX5_insert_88 : decode cX5_insert 88 = .ok (.ireturn, 1) := by decide +kernel
set_option maxRecDepth 20000 in
theorem ggX5_change_X5_existingStroke : GoodIn wsX5_change wsX5_existingStroke := goodIn_ca (goodIn_r _ [7, 2, 8, 9, 10, 6, 11, 12, 13, 14, 15, 16, 17, 18, 19, 20, 21, 22, 23, 24, 25, 115, 116, 117, 118, 119, 120, 121, 122, 123, 124, 125] (by decide +kernel) (by decide +kernel)) (goodIn_sub (fun _ h => List.mem_cons_of_mem _ (List.mem_append_left _ (List.mem_append_right _ h))) (by decide +kernel))
set_option maxRecDepth 20000 in
theorem gX5_change_X5_existingStroke : GoodIn wsX5_change (wsV RX5 87 RX5 yX5_existingStroke wsX5_existingStroke) := goodIn_app (goodIn_of _ (by decide +kernel)) ggX5_change_X5_existingStroke
set_option maxRecDepth 20000 in
theorem ggX5_change_X5_requirePoint : GoodIn wsX5_change wsX5_requirePoint := goodIn_ca (goodIn_r _ [28, 12, 13, 29, 30, 31, 32, 33, 34, 126, 127, 128] (by decide +kernel) (by decide +kernel)) (goodIn_sub (fun _ h => List.mem_cons_of_mem _ (List.mem_append_left _ (List.mem_append_right _ h))) (by decide +kernel))
set_option maxRecDepth 20000 in
theorem gX5_change_X5_requirePoint : GoodIn wsX5_change (va_wsS RX5 112 yX5_requirePoint wsX5_requirePoint) := goodIn_app (goodIn_of _ (by decide +kernel)) ggX5_change_X5_requirePoint
set_option maxRecDepth 20000 in
theorem ggX5_change_X5_requirePlace : GoodIn wsX5_change wsX5_requirePlace := goodIn_ca (goodIn_r _ [37, 38, 39, 6, 40, 41, 42] (by decide +kernel) (by decide +kernel)) (goodIn_sub (fun _ h => List.mem_cons_of_mem _ (List.mem_append_right _ h)) (by decide +kernel))
set_option maxRecDepth 20000 in
theorem gX5_change_X5_requirePlace : GoodIn wsX5_change (va_wsS RX5 41 yX5_requirePlace wsX5_requirePlace) := goodIn_app (goodIn_of _ (by decide +kernel)) ggX5_change_X5_requirePlace
set_option maxRecDepth 20000 in
theorem ggX5_change_X5_requireWidth : GoodIn wsX5_change wsX5_requireWidth := goodIn_ca (goodIn_r _ [45, 38, 39, 6, 40, 41, 42] (by decide +kernel) (by decide +kernel)) (goodIn_sub (fun _ h => List.mem_cons_of_mem _ (List.mem_append_right _ h)) (by decide +kernel))
set_option maxRecDepth 20000 in
theorem gX5_change_X5_requireWidth : GoodIn wsX5_change (va_wsS RX5 99 yX5_requireWidth wsX5_requireWidth) := goodIn_app (goodIn_of _ (by decide +kernel)) ggX5_change_X5_requireWidth
set_option maxRecDepth 20000 in
theorem ggX5_change_X0_save : GoodIn wsX5_change wsX0_save := goodIn_r _ [50, 51, 52, 53, 54, 55, 17, 56, 57, 58, 59, 60, 61, 62, 24, 63, 32, 25, 64, 65, 66, 67, 68, 69, 70, 71, 72, 73, 74, 75, 76, 77, 78, 79, 80, 19, 81, 82, 83, 21, 22, 23, 84, 85, 86, 87, 34, 88, 89, 6, 90, 91, 92, 93, 94, 95, 96, 97, 98, 129, 130, 131, 120, 121, 122, 123, 124, 125, 126, 127, 128] (by decide +kernel) (by decide +kernel)
set_option maxRecDepth 20000 in
theorem gX5_change_X0_save : GoodIn wsX5_change (wsV RX5 48 RX0 yX0_save wsX0_save) := goodIn_app (goodIn_of _ (by decide +kernel)) ggX5_change_X0_save
set_option maxRecDepth 20000 in
theorem ggX5_change_X3_x : GoodIn wsX5_change wsX3_x := goodIn_r _ [102, 76, 126, 127, 128] (by decide +kernel) (by decide +kernel)
set_option maxRecDepth 20000 in
theorem gX5_change_X3_x : GoodIn wsX5_change (wsV RX5 116 RX3 yX3_x wsX3_x) := goodIn_app (goodIn_of _ (by decide +kernel)) ggX5_change_X3_x
set_option maxRecDepth 20000 in
theorem ggX5_change_X3_y : GoodIn wsX5_change wsX3_y := goodIn_r _ [106, 76, 126, 127, 128] (by decide +kernel) (by decide +kernel)
set_option maxRecDepth 20000 in
theorem gX5_change_X3_y : GoodIn wsX5_change (wsV RX5 120 RX3 yX3_y wsX3_y) := goodIn_app (goodIn_of _ (by decide +kernel)) ggX5_change_X3_y
set_option maxRecDepth 20000 in
theorem ggX5_change_X3_putPoint : GoodIn wsX5_change wsX3_putPoint := goodIn_r _ [110, 76, 126, 127, 128] (by decide +kernel) (by decide +kernel)
set_option maxRecDepth 20000 in
theorem gX5_change_X3_putPoint : GoodIn wsX5_change (wsV RX5 123 RX3 yX3_putPoint wsX3_putPoint) := goodIn_app (goodIn_of _ (by decide +kernel)) ggX5_change_X3_putPoint
set_option maxRecDepth 20000 in
theorem ggX5_change_X3_keepAll : GoodIn wsX5_change wsX3_keepAll := goodIn_r _ [114, 34, 88, 126, 127, 128] (by decide +kernel) (by decide +kernel)
set_option maxRecDepth 20000 in
theorem gX5_change_X3_keepAll : GoodIn wsX5_change (wsV RX5 126 RX3 yX3_keepAll wsX3_keepAll) := goodIn_app (goodIn_of _ (by decide +kernel)) ggX5_change_X3_keepAll
theorem dX5_change_0 : decode cX5_change 0 = .ok (.aload_n 0, 1) := by decide +kernel
theorem dX5_change_1 : decode cX5_change 1 = .ok (.iload_n 1, 1) := by decide +kernel
theorem dX5_change_2 : decode cX5_change 2 = .ok (.invokevirtual 87, 3) := by decide +kernel
theorem dX5_change_5 : decode cX5_change 5 = .ok (.astore 6, 2) := by decide +kernel
theorem dX5_change_7 : decode cX5_change 7 = .ok (.aload 6, 2) := by decide +kernel
theorem dX5_change_9 : decode cX5_change 9 = .ok (.iload_n 2, 1) := by decide +kernel
theorem dX5_change_10 : decode cX5_change 10 = .ok (.invokestatic 112, 3) := by decide +kernel
theorem dX5_change_13 : decode cX5_change 13 = .ok (.iload_n 3, 1) := by decide +kernel
theorem dX5_change_14 : decode cX5_change 14 = .ok (.iload 4, 2) := by decide +kernel
theorem dX5_change_16 : decode cX5_change 16 = .ok (.invokestatic 41, 3) := by decide +kernel
theorem dX5_change_19 : decode cX5_change 19 = .ok (.iload 5, 2) := by decide +kernel
theorem dX5_change_21 : decode cX5_change 21 = .ok (.invokestatic 99, 3) := by decide +kernel
theorem dX5_change_24 : decode cX5_change 24 = .ok (.aload_n 0, 1) := by decide +kernel
theorem dX5_change_25 : decode cX5_change 25 = .ok (.getfield 19, 3) := by decide +kernel
theorem dX5_change_28 : decode cX5_change 28 = .ok (.aload_n 0, 1) := by decide +kernel
theorem dX5_change_29 : decode cX5_change 29 = .ok (.getfield 10, 3) := by decide +kernel
theorem dX5_change_32 : decode cX5_change 32 = .ok (.invokevirtual 48, 3) := by decide +kernel
theorem dX5_change_35 : decode cX5_change 35 = .ok (.bipush 100, 2) := by decide +kernel
theorem dX5_change_37 : decode cX5_change 37 = .ok (.aload 6, 2) := by decide +kernel
theorem dX5_change_39 : decode cX5_change 39 = .ok (.iload_n 2, 1) := by decide +kernel
theorem dX5_change_40 : decode cX5_change 40 = .ok (.invokevirtual 116, 3) := by decide +kernel
theorem dX5_change_43 : decode cX5_change 43 = .ok (.imul, 1) := by decide +kernel
theorem dX5_change_44 : decode cX5_change 44 = .ok (.aload 6, 2) := by decide +kernel
theorem dX5_change_46 : decode cX5_change 46 = .ok (.iload_n 2, 1) := by decide +kernel
theorem dX5_change_47 : decode cX5_change 47 = .ok (.invokevirtual 120, 3) := by decide +kernel
theorem dX5_change_50 : decode cX5_change 50 = .ok (.iadd, 1) := by decide +kernel
theorem dX5_change_51 : decode cX5_change 51 = .ok (.istore 7, 2) := by decide +kernel
theorem dX5_change_53 : decode cX5_change 53 = .ok (.aload 6, 2) := by decide +kernel
theorem dX5_change_55 : decode cX5_change 55 = .ok (.iload_n 2, 1) := by decide +kernel
theorem dX5_change_56 : decode cX5_change 56 = .ok (.iload_n 3, 1) := by decide +kernel
theorem dX5_change_57 : decode cX5_change 57 = .ok (.iload 4, 2) := by decide +kernel
theorem dX5_change_59 : decode cX5_change 59 = .ok (.iload 5, 2) := by decide +kernel
theorem dX5_change_61 : decode cX5_change 61 = .ok (.invokevirtual 123, 3) := by decide +kernel
theorem dX5_change_64 : decode cX5_change 64 = .ok (.aload 6, 2) := by decide +kernel
theorem dX5_change_66 : decode cX5_change 66 = .ok (.invokevirtual 126, 3) := by decide +kernel
theorem dX5_change_69 : decode cX5_change 69 = .ok (.iload 7, 2) := by decide +kernel
theorem dX5_change_71 : decode cX5_change 71 = .ok (.ireturn, 1) := by decide +kernel
set_option maxRecDepth 20000 in
theorem ggX5_remove_X5_existingStroke : GoodIn wsX5_remove wsX5_existingStroke := goodIn_ca (goodIn_r _ [9, 4, 10, 11, 12, 8, 13, 14, 15, 16, 17, 18, 19, 20, 21, 22, 23, 24, 25, 26, 27, 114, 115, 116, 117, 118, 119, 120, 121, 122, 123, 124] (by decide +kernel) (by decide +kernel)) (goodIn_sub (fun _ h => List.mem_cons_of_mem _ (List.mem_append_right _ h)) (by decide +kernel))
set_option maxRecDepth 20000 in
theorem gX5_remove_X5_existingStroke : GoodIn wsX5_remove (wsV RX5 87 RX5 yX5_existingStroke wsX5_existingStroke) := goodIn_app (goodIn_of _ (by decide +kernel)) ggX5_remove_X5_existingStroke
set_option maxRecDepth 20000 in
theorem ggX5_remove_X5_requirePoint : GoodIn wsX5_remove wsX5_requirePoint := goodIn_ca (goodIn_r _ [30, 14, 15, 31, 32, 33, 34, 35, 36, 125, 126, 127] (by decide +kernel) (by decide +kernel)) (goodIn_sub (fun _ h => List.mem_cons_of_mem _ (List.mem_append_right _ h)) (by decide +kernel))
set_option maxRecDepth 20000 in
theorem gX5_remove_X5_requirePoint : GoodIn wsX5_remove (va_wsS RX5 112 yX5_requirePoint wsX5_requirePoint) := goodIn_app (goodIn_of _ (by decide +kernel)) ggX5_remove_X5_requirePoint
set_option maxRecDepth 20000 in
theorem ggX5_remove_X3_size : GoodIn wsX5_remove wsX3_size := goodIn_r _ [35, 36, 125, 126, 127] (by decide +kernel) (by decide +kernel)
set_option maxRecDepth 20000 in
theorem gX5_remove_X3_size : GoodIn wsX5_remove (wsV RX5 91 RX3 yX3_size wsX3_size) := goodIn_app (goodIn_of _ (by decide +kernel)) ggX5_remove_X3_size
set_option maxRecDepth 20000 in
theorem ggX5_remove_X0_save : GoodIn wsX5_remove wsX0_save := goodIn_r _ [41, 42, 43, 44, 45, 46, 19, 47, 48, 49, 50, 51, 52, 53, 26, 54, 34, 27, 55, 56, 57, 58, 59, 60, 61, 62, 63, 64, 65, 66, 67, 68, 69, 70, 71, 21, 72, 73, 74, 23, 24, 25, 75, 76, 77, 78, 36, 79, 80, 8, 81, 82, 83, 84, 85, 86, 87, 88, 89, 128, 129, 130, 119, 120, 121, 122, 123, 124, 125, 126, 127] (by decide +kernel) (by decide +kernel)
set_option maxRecDepth 20000 in
theorem gX5_remove_X0_save : GoodIn wsX5_remove (wsV RX5 48 RX0 yX0_save wsX0_save) := goodIn_app (goodIn_of _ (by decide +kernel)) ggX5_remove_X0_save
set_option maxRecDepth 20000 in
theorem ggX5_remove_X3_removePoint : GoodIn wsX5_remove wsX3_removePoint := goodIn_r _ [93, 36, 94, 95, 96, 34, 97, 67, 98, 99, 100, 101, 102, 103, 104, 105, 106, 107, 108, 109, 110, 111, 112, 113, 79, 125, 126, 127] (by decide +kernel) (by decide +kernel)
set_option maxRecDepth 20000 in
theorem gX5_remove_X3_removePoint : GoodIn wsX5_remove (wsV RX5 131 RX3 yX3_removePoint wsX3_removePoint) := goodIn_app (goodIn_of _ (by decide +kernel)) ggX5_remove_X3_removePoint
theorem dX5_remove_0 : decode cX5_remove 0 = .ok (.aload_n 0, 1) := by decide +kernel
theorem dX5_remove_1 : decode cX5_remove 1 = .ok (.iload_n 1, 1) := by decide +kernel
theorem dX5_remove_2 : decode cX5_remove 2 = .ok (.invokevirtual 87, 3) := by decide +kernel
theorem dX5_remove_5 : decode cX5_remove 5 = .ok (.astore_n 3, 1) := by decide +kernel
theorem dX5_remove_6 : decode cX5_remove 6 = .ok (.aload_n 3, 1) := by decide +kernel
theorem dX5_remove_7 : decode cX5_remove 7 = .ok (.iload_n 2, 1) := by decide +kernel
theorem dX5_remove_8 : decode cX5_remove 8 = .ok (.invokestatic 112, 3) := by decide +kernel
theorem dX5_remove_11 : decode cX5_remove 11 = .ok (.aload_n 3, 1) := by decide +kernel
theorem dX5_remove_12 : decode cX5_remove 12 = .ok (.invokevirtual 91, 3) := by decide +kernel
theorem dX5_remove_15 : decode cX5_remove 15 = .ok (.iconst 2, 1) := by decide +kernel
theorem dX5_remove_16 : decode cX5_remove 16 = .ok (.if_icmp .gt 13, 3) := by decide +kernel
theorem dX5_remove_19 : decode cX5_remove 19 = .ok (.new 103, 3) := by decide +kernel
theorem dX5_remove_22 : decode cX5_remove 22 = .ok (.dup, 1) := by decide +kernel
theorem dX5_remove_23 : decode cX5_remove 23 = .ok (.ldc 129, 2) := by decide +kernel
theorem dX5_remove_25 : decode cX5_remove 25 = .ok (.invokespecial 107, 3) := by decide +kernel
theorem dX5_remove_28 : decode cX5_remove 28 = .ok (.athrow, 1) := by decide +kernel
theorem dX5_remove_29 : decode cX5_remove 29 = .ok (.aload_n 0, 1) := by decide +kernel
theorem dX5_remove_30 : decode cX5_remove 30 = .ok (.getfield 19, 3) := by decide +kernel
theorem dX5_remove_33 : decode cX5_remove 33 = .ok (.aload_n 0, 1) := by decide +kernel
theorem dX5_remove_34 : decode cX5_remove 34 = .ok (.getfield 10, 3) := by decide +kernel
theorem dX5_remove_37 : decode cX5_remove 37 = .ok (.invokevirtual 48, 3) := by decide +kernel
theorem dX5_remove_40 : decode cX5_remove 40 = .ok (.aload_n 3, 1) := by decide +kernel
theorem dX5_remove_41 : decode cX5_remove 41 = .ok (.iload_n 2, 1) := by decide +kernel
theorem dX5_remove_42 : decode cX5_remove 42 = .ok (.invokevirtual 131, 3) := by decide +kernel
theorem dX5_remove_45 : decode cX5_remove 45 = .ok (.aload_n 3, 1) := by decide +kernel
theorem dX5_remove_46 : decode cX5_remove 46 = .ok (.invokevirtual 91, 3) := by decide +kernel
theorem dX5_remove_49 : decode cX5_remove 49 = .ok (.ireturn, 1) := by decide +kernel
set_option maxRecDepth 20000 in
theorem ggX5_simplify_X5_existingStroke : GoodIn wsX5_simplify wsX5_existingStroke := goodIn_ca (goodIn_r _ [8, 2, 9, 10, 11, 7, 12, 13, 14, 15, 16, 17, 18, 19, 20, 21, 22, 23, 24, 25, 26, 214, 215, 216, 217, 218, 219, 220, 221, 222, 223, 224] (by decide +kernel) (by decide +kernel)) (goodIn_sub (fun _ h => List.mem_cons_of_mem _ (List.mem_append_left _ (List.mem_append_right _ h))) (by decide +kernel))
set_option maxRecDepth 20000 in
theorem gX5_simplify_X5_existingStroke : GoodIn wsX5_simplify (wsV RX5 87 RX5 yX5_existingStroke wsX5_existingStroke) := goodIn_app (goodIn_of _ (by decide +kernel)) ggX5_simplify_X5_existingStroke
set_option maxRecDepth 20000 in
theorem ggX5_simplify_X5_requireWay : GoodIn wsX5_simplify wsX5_requireWay := goodIn_ca (goodIn_r _ [29, 30, 31, 7, 32, 33, 34] (by decide +kernel) (by decide +kernel)) (goodIn_sub (fun _ h => List.mem_cons_of_mem _ (List.mem_append_right _ h)) (by decide +kernel))
set_option maxRecDepth 20000 in
theorem gX5_simplify_X5_requireWay : GoodIn wsX5_simplify (va_wsS RX5 140 yX5_requireWay wsX5_requireWay) := goodIn_app (goodIn_of _ (by decide +kernel)) ggX5_simplify_X5_requireWay
set_option maxRecDepth 20000 in
theorem ggX5_simplify_X0_save : GoodIn wsX5_simplify wsX0_save := goodIn_r _ [39, 40, 41, 42, 43, 44, 18, 45, 46, 47, 48, 49, 50, 51, 25, 52, 53, 26, 54, 55, 56, 57, 58, 59, 60, 61, 62, 63, 64, 65, 66, 67, 68, 69, 70, 20, 71, 72, 73, 22, 23, 24, 74, 75, 76, 77, 78, 79, 80, 7, 81, 82, 83, 84, 85, 86, 87, 88, 89, 225, 226, 227, 219, 220, 221, 222, 223, 224, 228, 229, 230] (by decide +kernel) (by decide +kernel)
set_option maxRecDepth 20000 in
theorem gX5_simplify_X0_save : GoodIn wsX5_simplify (wsV RX5 48 RX0 yX0_save wsX0_save) := goodIn_app (goodIn_of _ (by decide +kernel)) ggX5_simplify_X0_save
set_option maxRecDepth 20000 in
theorem ggX5_simplify_X1_fixedPoints : GoodIn wsX5_simplify wsX1_fixedPoints := goodIn_r _ [93, 94, 95, 96, 53, 97, 78, 98, 99, 100, 18, 101, 60, 102, 7, 103, 104, 105, 106, 107, 108, 109, 110, 111, 112, 113, 114, 115, 116, 117, 118, 119, 120, 121, 122, 123, 124, 66, 125, 126, 127, 128, 129, 130, 131, 132, 133, 134, 135, 136, 137, 138, 139, 140, 228, 229, 230, 219, 220, 221, 222, 223, 224] (by decide +kernel) (by decide +kernel)
set_option maxRecDepth 20000 in
theorem gX5_simplify_X1_fixedPoints : GoodIn wsX5_simplify (wsV RX5 143 RX1 yX1_fixedPoints wsX1_fixedPoints) := goodIn_app (goodIn_of _ (by decide +kernel)) ggX5_simplify_X1_fixedPoints
set_option maxRecDepth 20000 in
theorem ggX5_simplify_X1_value : GoodIn wsX5_simplify wsX1_value := goodIn_r _ [101, 60, 102, 7, 103, 219, 220, 221, 222, 223, 224] (by decide +kernel) (by decide +kernel)
set_option maxRecDepth 20000 in
theorem gX5_simplify_X1_value : GoodIn wsX5_simplify (wsV RX5 147 RX1 yX1_value wsX1_value) := goodIn_app (goodIn_of _ (by decide +kernel)) ggX5_simplify_X1_value
set_option maxRecDepth 20000 in
theorem ggX5_simplify_X2_keptPoints : GoodIn wsX5_simplify wsX2_keptPoints := goodIn_r _ [146, 147, 148, 149, 145, 150, 151, 95, 96, 53, 97, 78, 152, 153, 154, 155, 156, 7, 157, 158, 159, 160, 161, 162, 163, 164, 165, 166, 167, 84, 168, 121, 122, 123, 124, 66, 125, 126, 127, 128, 169, 170, 171, 172, 173, 129, 130, 131, 132, 174, 175, 176, 177, 178, 179, 180, 181, 182, 183, 184, 185, 186, 187, 188, 189, 190, 191, 192, 193, 102, 103, 228, 229, 230, 231, 232, 233] (by decide +kernel) (by decide +kernel)
set_option maxRecDepth 20000 in
theorem gX5_simplify_X2_keptPoints : GoodIn wsX5_simplify (wsV RX5 150 RX2 yX2_keptPoints wsX2_keptPoints) := goodIn_app (goodIn_of _ (by decide +kernel)) ggX5_simplify_X2_keptPoints
set_option maxRecDepth 20000 in
theorem ggX5_simplify_X3_keepOnly : GoodIn wsX5_simplify wsX3_keepOnly := goodIn_r _ [197, 79, 228, 229, 230] (by decide +kernel) (by decide +kernel)
set_option maxRecDepth 20000 in
theorem gX5_simplify_X3_keepOnly : GoodIn wsX5_simplify (wsV RX5 154 RX3 yX3_keepOnly wsX3_keepOnly) := goodIn_app (goodIn_of _ (by decide +kernel)) ggX5_simplify_X3_keepOnly
set_option maxRecDepth 20000 in
theorem ggX5_simplify_X3_size : GoodIn wsX5_simplify wsX3_size := goodIn_r _ [97, 78, 228, 229, 230] (by decide +kernel) (by decide +kernel)
set_option maxRecDepth 20000 in
theorem gX5_simplify_X3_size : GoodIn wsX5_simplify (wsV RX5 91 RX3 yX3_size wsX3_size) := goodIn_app (goodIn_of _ (by decide +kernel)) ggX5_simplify_X3_size
set_option maxRecDepth 20000 in
theorem ggX5_simplify_X3_keptCount : GoodIn wsX5_simplify wsX3_keptCount := goodIn_r _ [202, 79, 203, 204, 205, 206, 207, 208, 209, 228, 229, 230] (by decide +kernel) (by decide +kernel)
set_option maxRecDepth 20000 in
theorem gX5_simplify_X3_keptCount : GoodIn wsX5_simplify (wsV RX5 157 RX3 yX3_keptCount wsX3_keptCount) := goodIn_app (goodIn_of _ (by decide +kernel)) ggX5_simplify_X3_keptCount
set_option maxRecDepth 20000 in
theorem ggX5_simplify_X1_noteSimplified : GoodIn wsX5_simplify wsX1_noteSimplified := goodIn_r _ [213, 71, 72, 219, 220, 221, 222, 223, 224] (by decide +kernel) (by decide +kernel)
set_option maxRecDepth 20000 in
theorem gX5_simplify_X1_noteSimplified : GoodIn wsX5_simplify (wsV RX5 160 RX1 yX1_noteSimplified wsX1_noteSimplified) := goodIn_app (goodIn_of _ (by decide +kernel)) ggX5_simplify_X1_noteSimplified
theorem dX5_simplify_0 : decode cX5_simplify 0 = .ok (.aload_n 0, 1) := by decide +kernel
theorem dX5_simplify_1 : decode cX5_simplify 1 = .ok (.iload_n 1, 1) := by decide +kernel
theorem dX5_simplify_2 : decode cX5_simplify 2 = .ok (.invokevirtual 87, 3) := by decide +kernel
theorem dX5_simplify_5 : decode cX5_simplify 5 = .ok (.astore_n 3, 1) := by decide +kernel
theorem dX5_simplify_6 : decode cX5_simplify 6 = .ok (.iload_n 2, 1) := by decide +kernel
theorem dX5_simplify_7 : decode cX5_simplify 7 = .ok (.invokestatic 140, 3) := by decide +kernel
theorem dX5_simplify_10 : decode cX5_simplify 10 = .ok (.aload_n 0, 1) := by decide +kernel
theorem dX5_simplify_11 : decode cX5_simplify 11 = .ok (.getfield 19, 3) := by decide +kernel
theorem dX5_simplify_14 : decode cX5_simplify 14 = .ok (.aload_n 0, 1) := by decide +kernel
theorem dX5_simplify_15 : decode cX5_simplify 15 = .ok (.getfield 10, 3) := by decide +kernel
theorem dX5_simplify_18 : decode cX5_simplify 18 = .ok (.invokevirtual 48, 3) := by decide +kernel
theorem dX5_simplify_21 : decode cX5_simplify 21 = .ok (.aload_n 0, 1) := by decide +kernel
theorem dX5_simplify_22 : decode cX5_simplify 22 = .ok (.getfield 37, 3) := by decide +kernel
theorem dX5_simplify_25 : decode cX5_simplify 25 = .ok (.aload_n 3, 1) := by decide +kernel
theorem dX5_simplify_26 : decode cX5_simplify 26 = .ok (.aload_n 0, 1) := by decide +kernel
theorem dX5_simplify_27 : decode cX5_simplify 27 = .ok (.getfield 10, 3) := by decide +kernel
theorem dX5_simplify_30 : decode cX5_simplify 30 = .ok (.aload_n 3, 1) := by decide +kernel
theorem dX5_simplify_31 : decode cX5_simplify 31 = .ok (.invokevirtual 143, 3) := by decide +kernel
theorem dX5_simplify_34 : decode cX5_simplify 34 = .ok (.aload_n 0, 1) := by decide +kernel
theorem dX5_simplify_35 : decode cX5_simplify 35 = .ok (.getfield 10, 3) := by decide +kernel
theorem dX5_simplify_38 : decode cX5_simplify 38 = .ok (.iconst 0, 1) := by decide +kernel
theorem dX5_simplify_39 : decode cX5_simplify 39 = .ok (.invokevirtual 147, 3) := by decide +kernel
theorem dX5_simplify_42 : decode cX5_simplify 42 = .ok (.iload_n 2, 1) := by decide +kernel
theorem dX5_simplify_43 : decode cX5_simplify 43 = .ok (.invokevirtual 150, 3) := by decide +kernel
theorem dX5_simplify_46 : decode cX5_simplify 46 = .ok (.istore 4, 2) := by decide +kernel
theorem dX5_simplify_48 : decode cX5_simplify 48 = .ok (.aload_n 3, 1) := by decide +kernel
theorem dX5_simplify_49 : decode cX5_simplify 49 = .ok (.iload 4, 2) := by decide +kernel
theorem dX5_simplify_51 : decode cX5_simplify 51 = .ok (.invokevirtual 154, 3) := by decide +kernel
theorem dX5_simplify_54 : decode cX5_simplify 54 = .ok (.aload_n 0, 1) := by decide +kernel
theorem dX5_simplify_55 : decode cX5_simplify 55 = .ok (.getfield 10, 3) := by decide +kernel
theorem dX5_simplify_58 : decode cX5_simplify 58 = .ok (.aload_n 3, 1) := by decide +kernel
theorem dX5_simplify_59 : decode cX5_simplify 59 = .ok (.invokevirtual 91, 3) := by decide +kernel
theorem dX5_simplify_62 : decode cX5_simplify 62 = .ok (.aload_n 3, 1) := by decide +kernel
theorem dX5_simplify_63 : decode cX5_simplify 63 = .ok (.invokevirtual 157, 3) := by decide +kernel
theorem dX5_simplify_66 : decode cX5_simplify 66 = .ok (.isub, 1) := by decide +kernel
theorem dX5_simplify_67 : decode cX5_simplify 67 = .ok (.invokevirtual 160, 3) := by decide +kernel
theorem dX5_simplify_70 : decode cX5_simplify 70 = .ok (.aload_n 3, 1) := by decide +kernel
theorem dX5_simplify_71 : decode cX5_simplify 71 = .ok (.invokevirtual 157, 3) := by decide +kernel
theorem dX5_simplify_74 : decode cX5_simplify 74 = .ok (.ireturn, 1) := by decide +kernel
set_option maxRecDepth 20000 in
theorem ggX5_bake_X5_existingStroke : GoodIn wsX5_bake wsX5_existingStroke := goodIn_ca (goodIn_r _ [7, 2, 8, 9, 10, 6, 11, 12, 13, 14, 15, 16, 17, 18, 19, 20, 21, 22, 23, 24, 25, 115, 116, 117, 118, 119, 120, 121, 122, 123, 124, 125] (by decide +kernel) (by decide +kernel)) (goodIn_sub (fun _ h => List.mem_cons_of_mem _ (List.mem_append_right _ h)) (by decide +kernel))
set_option maxRecDepth 20000 in
theorem gX5_bake_X5_existingStroke : GoodIn wsX5_bake (wsV RX5 87 RX5 yX5_existingStroke wsX5_existingStroke) := goodIn_app (goodIn_of _ (by decide +kernel)) ggX5_bake_X5_existingStroke
set_option maxRecDepth 20000 in
theorem ggX5_bake_X0_save : GoodIn wsX5_bake wsX0_save := goodIn_r _ [30, 31, 32, 33, 34, 35, 17, 36, 37, 38, 39, 40, 41, 42, 24, 43, 44, 25, 45, 46, 47, 48, 49, 50, 51, 52, 53, 54, 55, 56, 57, 58, 59, 60, 61, 19, 62, 63, 64, 21, 22, 23, 65, 66, 67, 68, 69, 70, 71, 6, 72, 73, 74, 75, 76, 77, 78, 79, 80, 126, 127, 128, 120, 121, 122, 123, 124, 125, 129, 130, 131] (by decide +kernel) (by decide +kernel)
set_option maxRecDepth 20000 in
theorem gX5_bake_X0_save : GoodIn wsX5_bake (wsV RX5 48 RX0 yX0_save wsX0_save) := goodIn_app (goodIn_of _ (by decide +kernel)) ggX5_bake_X0_save
set_option maxRecDepth 20000 in
theorem ggX5_bake_X3_size : GoodIn wsX5_bake wsX3_size := goodIn_r _ [84, 69, 129, 130, 131] (by decide +kernel) (by decide +kernel)
set_option maxRecDepth 20000 in
theorem gX5_bake_X3_size : GoodIn wsX5_bake (wsV RX5 91 RX3 yX3_size wsX3_size) := goodIn_app (goodIn_of _ (by decide +kernel)) ggX5_bake_X3_size
set_option maxRecDepth 20000 in
theorem ggX5_bake_X3_removeUnkept : GoodIn wsX5_bake wsX3_removeUnkept := goodIn_r _ [88, 69, 89, 90, 91, 44, 92, 70, 93, 6, 94, 95, 96, 97, 98, 57, 99, 100, 101, 102, 103, 104, 105, 106, 107, 108, 109, 110, 111, 112, 113, 114, 129, 130, 131] (by decide +kernel) (by decide +kernel)
set_option maxRecDepth 20000 in
theorem gX5_bake_X3_removeUnkept : GoodIn wsX5_bake (wsV RX5 163 RX3 yX3_removeUnkept wsX3_removeUnkept) := goodIn_app (goodIn_of _ (by decide +kernel)) ggX5_bake_X3_removeUnkept
theorem dX5_bake_0 : decode cX5_bake 0 = .ok (.aload_n 0, 1) := by decide +kernel
theorem dX5_bake_1 : decode cX5_bake 1 = .ok (.iload_n 1, 1) := by decide +kernel
theorem dX5_bake_2 : decode cX5_bake 2 = .ok (.invokevirtual 87, 3) := by decide +kernel
theorem dX5_bake_5 : decode cX5_bake 5 = .ok (.astore_n 2, 1) := by decide +kernel
theorem dX5_bake_6 : decode cX5_bake 6 = .ok (.aload_n 0, 1) := by decide +kernel
theorem dX5_bake_7 : decode cX5_bake 7 = .ok (.getfield 19, 3) := by decide +kernel
theorem dX5_bake_10 : decode cX5_bake 10 = .ok (.aload_n 0, 1) := by decide +kernel
theorem dX5_bake_11 : decode cX5_bake 11 = .ok (.getfield 10, 3) := by decide +kernel
theorem dX5_bake_14 : decode cX5_bake 14 = .ok (.invokevirtual 48, 3) := by decide +kernel
theorem dX5_bake_17 : decode cX5_bake 17 = .ok (.aload_n 2, 1) := by decide +kernel
theorem dX5_bake_18 : decode cX5_bake 18 = .ok (.invokevirtual 91, 3) := by decide +kernel
theorem dX5_bake_21 : decode cX5_bake 21 = .ok (.istore_n 3, 1) := by decide +kernel
theorem dX5_bake_22 : decode cX5_bake 22 = .ok (.aload_n 2, 1) := by decide +kernel
theorem dX5_bake_23 : decode cX5_bake 23 = .ok (.invokevirtual 163, 3) := by decide +kernel
theorem dX5_bake_26 : decode cX5_bake 26 = .ok (.iload_n 3, 1) := by decide +kernel
theorem dX5_bake_27 : decode cX5_bake 27 = .ok (.aload_n 2, 1) := by decide +kernel
theorem dX5_bake_28 : decode cX5_bake 28 = .ok (.invokevirtual 91, 3) := by decide +kernel
theorem dX5_bake_31 : decode cX5_bake 31 = .ok (.isub, 1) := by decide +kernel
theorem dX5_bake_32 : decode cX5_bake 32 = .ok (.ireturn, 1) := by decide +kernel
set_option maxRecDepth 20000 in
theorem ggX5_set_X5_requireSetting : GoodIn wsX5_set wsX5_requireSetting := goodIn_ca (goodIn_r _ [8, 9, 10, 11] (by decide +kernel) (by decide +kernel)) (goodIn_sub (fun _ h => List.mem_cons_of_mem _ (List.mem_append_left _ (List.mem_append_right _ h))) (by decide +kernel))
set_option maxRecDepth 20000 in
theorem gX5_set_X5_requireSetting : GoodIn wsX5_set (va_wsS RX5 166 yX5_requireSetting wsX5_requireSetting) := goodIn_app (goodIn_of _ (by decide +kernel)) ggX5_set_X5_requireSetting
set_option maxRecDepth 20000 in
theorem ggX5_set_X5_cell : GoodIn wsX5_set wsX5_cell := goodIn_r _ [14] (by decide +kernel) (by decide +kernel)
set_option maxRecDepth 20000 in
theorem gX5_set_X5_cell : GoodIn wsX5_set (va_wsS RX5 173 yX5_cell wsX5_cell) := goodIn_app (goodIn_of _ (by decide +kernel)) ggX5_set_X5_cell
set_option maxRecDepth 20000 in
theorem ggX5_set_X5_requireBetween : GoodIn wsX5_set wsX5_requireBetween := goodIn_ca (goodIn_r _ [17, 18, 19] (by decide +kernel) (by decide +kernel)) (goodIn_sub (fun _ h => List.mem_cons_of_mem _ (List.mem_append_right _ h)) (by decide +kernel))
set_option maxRecDepth 20000 in
theorem gX5_set_X5_requireBetween : GoodIn wsX5_set (va_wsS RX5 180 yX5_requireBetween wsX5_requireBetween) := goodIn_app (goodIn_of _ (by decide +kernel)) ggX5_set_X5_requireBetween
set_option maxRecDepth 20000 in
theorem ggX5_set_X0_save : GoodIn wsX5_set wsX0_save := goodIn_r _ [24, 25, 26, 27, 28, 29, 30, 31, 32, 33, 34, 35, 36, 37, 38, 39, 40, 41, 42, 43, 44, 45, 46, 47, 48, 49, 50, 51, 52, 53, 54, 55, 56, 57, 58, 59, 60, 61, 62, 63, 64, 65, 66, 67, 68, 69, 70, 71, 72, 7, 73, 74, 75, 76, 77, 78, 79, 80, 81, 97, 98, 99, 100, 101, 102, 103, 104, 105, 106, 107, 108] (by decide +kernel) (by decide +kernel)
set_option maxRecDepth 20000 in
theorem gX5_set_X0_save : GoodIn wsX5_set (wsV RX5 48 RX0 yX0_save wsX0_save) := goodIn_app (goodIn_of _ (by decide +kernel)) ggX5_set_X0_save
set_option maxRecDepth 20000 in
theorem ggX5_set_X1_value : GoodIn wsX5_set wsX1_value := goodIn_r _ [85, 48, 13, 7, 14, 100, 101, 102, 103, 104, 105] (by decide +kernel) (by decide +kernel)
set_option maxRecDepth 20000 in
theorem gX5_set_X1_value : GoodIn wsX5_set (wsV RX5 147 RX1 yX1_value wsX1_value) := goodIn_app (goodIn_of _ (by decide +kernel)) ggX5_set_X1_value
set_option maxRecDepth 20000 in
theorem ggX5_set_X1_putValue : GoodIn wsX5_set wsX1_putValue := goodIn_r _ [89, 48, 90, 7, 91, 100, 101, 102, 103, 104, 105] (by decide +kernel) (by decide +kernel)
set_option maxRecDepth 20000 in
theorem gX5_set_X1_putValue : GoodIn wsX5_set (wsV RX5 183 RX1 yX1_putValue wsX1_putValue) := goodIn_app (goodIn_of _ (by decide +kernel)) ggX5_set_X1_putValue
theorem dX5_set_0 : decode cX5_set 0 = .ok (.iload_n 1, 1) := by decide +kernel
theorem dX5_set_1 : decode cX5_set 1 = .ok (.invokestatic 166, 3) := by decide +kernel
theorem dX5_set_4 : decode cX5_set 4 = .ok (.iload_n 2, 1) := by decide +kernel
theorem dX5_set_5 : decode cX5_set 5 = .ok (.getstatic 169, 3) := by decide +kernel
theorem dX5_set_8 : decode cX5_set 8 = .ok (.iload_n 1, 1) := by decide +kernel
theorem dX5_set_9 : decode cX5_set 9 = .ok (.invokestatic 173, 3) := by decide +kernel
theorem dX5_set_12 : decode cX5_set 12 = .ok (.getstatic 177, 3) := by decide +kernel
theorem dX5_set_15 : decode cX5_set 15 = .ok (.iload_n 1, 1) := by decide +kernel
theorem dX5_set_16 : decode cX5_set 16 = .ok (.invokestatic 173, 3) := by decide +kernel
theorem dX5_set_19 : decode cX5_set 19 = .ok (.invokestatic 180, 3) := by decide +kernel
theorem dX5_set_22 : decode cX5_set 22 = .ok (.aload_n 0, 1) := by decide +kernel
theorem dX5_set_23 : decode cX5_set 23 = .ok (.getfield 19, 3) := by decide +kernel
theorem dX5_set_26 : decode cX5_set 26 = .ok (.aload_n 0, 1) := by decide +kernel
theorem dX5_set_27 : decode cX5_set 27 = .ok (.getfield 10, 3) := by decide +kernel
theorem dX5_set_30 : decode cX5_set 30 = .ok (.invokevirtual 48, 3) := by decide +kernel
theorem dX5_set_33 : decode cX5_set 33 = .ok (.aload_n 0, 1) := by decide +kernel
theorem dX5_set_34 : decode cX5_set 34 = .ok (.getfield 10, 3) := by decide +kernel
theorem dX5_set_37 : decode cX5_set 37 = .ok (.iload_n 1, 1) := by decide +kernel
theorem dX5_set_38 : decode cX5_set 38 = .ok (.invokevirtual 147, 3) := by decide +kernel
theorem dX5_set_41 : decode cX5_set 41 = .ok (.istore_n 3, 1) := by decide +kernel
theorem dX5_set_42 : decode cX5_set 42 = .ok (.aload_n 0, 1) := by decide +kernel
theorem dX5_set_43 : decode cX5_set 43 = .ok (.getfield 10, 3) := by decide +kernel
theorem dX5_set_46 : decode cX5_set 46 = .ok (.iload_n 1, 1) := by decide +kernel
theorem dX5_set_47 : decode cX5_set 47 = .ok (.iload_n 2, 1) := by decide +kernel
theorem dX5_set_48 : decode cX5_set 48 = .ok (.invokevirtual 183, 3) := by decide +kernel
theorem dX5_set_51 : decode cX5_set 51 = .ok (.iload_n 3, 1) := by decide +kernel
theorem dX5_set_52 : decode cX5_set 52 = .ok (.ireturn, 1) := by decide +kernel
set_option maxRecDepth 20000 in
theorem ggX5_point_X5_existingStroke : GoodIn wsX5_point wsX5_existingStroke := goodIn_ca (goodIn_r _ [8, 3, 9, 10, 11, 7, 12, 13, 14, 15, 16, 17, 18, 19, 20, 21, 22, 23, 24, 25, 26, 122, 123, 124, 125, 126, 127, 128, 129, 130, 131, 132] (by decide +kernel) (by decide +kernel)) (goodIn_sub (fun _ h => List.mem_cons_of_mem _ (List.mem_append_right _ h)) (by decide +kernel))
set_option maxRecDepth 20000 in
theorem gX5_point_X5_existingStroke : GoodIn wsX5_point (wsV RX5 87 RX5 yX5_existingStroke wsX5_existingStroke) := goodIn_app (goodIn_of _ (by decide +kernel)) ggX5_point_X5_existingStroke
set_option maxRecDepth 20000 in
theorem ggX5_point_X5_requirePoint : GoodIn wsX5_point wsX5_requirePoint := goodIn_ca (goodIn_r _ [29, 13, 14, 30, 31, 32, 33, 34, 35, 133, 134, 135] (by decide +kernel) (by decide +kernel)) (goodIn_sub (fun _ h => List.mem_cons_of_mem _ (List.mem_append_right _ h)) (by decide +kernel))
set_option maxRecDepth 20000 in
theorem gX5_point_X5_requirePoint : GoodIn wsX5_point (va_wsS RX5 112 yX5_requirePoint wsX5_requirePoint) := goodIn_app (goodIn_of _ (by decide +kernel)) ggX5_point_X5_requirePoint
set_option maxRecDepth 20000 in
theorem ggX5_point_X3_x : GoodIn wsX5_point wsX3_x := goodIn_r _ [39, 40, 133, 134, 135] (by decide +kernel) (by decide +kernel)
set_option maxRecDepth 20000 in
theorem gX5_point_X3_x : GoodIn wsX5_point (wsV RX5 116 RX3 yX3_x wsX3_x) := goodIn_app (goodIn_of _ (by decide +kernel)) ggX5_point_X3_x
set_option maxRecDepth 20000 in
theorem ggX5_point_X3_y : GoodIn wsX5_point wsX3_y := goodIn_r _ [44, 40, 133, 134, 135] (by decide +kernel) (by decide +kernel)
set_option maxRecDepth 20000 in
theorem gX5_point_X3_y : GoodIn wsX5_point (wsV RX5 120 RX3 yX3_y wsX3_y) := goodIn_app (goodIn_of _ (by decide +kernel)) ggX5_point_X3_y
set_option maxRecDepth 20000 in
theorem ggX5_point_X3_width : GoodIn wsX5_point wsX3_width := goodIn_r _ [48, 40, 133, 134, 135] (by decide +kernel) (by decide +kernel)
set_option maxRecDepth 20000 in
theorem gX5_point_X3_width : GoodIn wsX5_point (wsV RX5 209 RX3 yX3_width wsX3_width) := goodIn_app (goodIn_of _ (by decide +kernel)) ggX5_point_X3_width
set_option maxRecDepth 20000 in
theorem ggX5_point_X3_isKept : GoodIn wsX5_point wsX3_isKept := goodIn_r _ [52, 53, 54, 7, 55, 133, 134, 135] (by decide +kernel) (by decide +kernel)
set_option maxRecDepth 20000 in
theorem gX5_point_X3_isKept : GoodIn wsX5_point (wsV RX5 212 RX3 yX3_isKept wsX3_isKept) := goodIn_app (goodIn_of _ (by decide +kernel)) ggX5_point_X3_isKept
set_option maxRecDepth 20000 in
theorem ggX5_point_X1_value : GoodIn wsX5_point wsX1_value := goodIn_r _ [59, 60, 61, 7, 62, 127, 128, 129, 130, 131, 132] (by decide +kernel) (by decide +kernel)
set_option maxRecDepth 20000 in
theorem gX5_point_X1_value : GoodIn wsX5_point (wsV RX5 147 RX1 yX1_value wsX1_value) := goodIn_app (goodIn_of _ (by decide +kernel)) ggX5_point_X1_value
set_option maxRecDepth 20000 in
theorem ggX5_point_X3_kind : GoodIn wsX5_point wsX3_kind := goodIn_r _ [66, 67, 68, 69, 33, 70, 35, 71, 72, 73, 74, 75, 76, 77, 78, 79, 80, 37, 38, 39, 40, 81, 42, 43, 44, 82, 83, 84, 85, 86, 87, 88, 89, 90, 46, 47, 48, 133, 134, 135] (by decide +kernel) (by decide +kernel)
set_option maxRecDepth 20000 in
theorem gX5_point_X3_kind : GoodIn wsX5_point (wsV RX5 216 RX3 yX3_kind wsX3_kind) := goodIn_app (goodIn_of _ (by decide +kernel)) ggX5_point_X3_kind
set_option maxRecDepth 20000 in
theorem ggX5_point_X3_stray : GoodIn wsX5_point wsX3_stray := goodIn_r _ [94, 95, 50, 51, 33, 52, 53, 54, 7, 55, 96, 97, 98, 99, 100, 101, 102, 103, 35, 104, 105, 106, 107, 75, 108, 109, 110, 111, 112, 113, 114, 115, 82, 83, 84, 85, 80, 37, 38, 39, 40, 81, 42, 43, 44, 116, 117, 118, 119, 120, 121, 133, 134, 135] (by decide +kernel) (by decide +kernel)
set_option maxRecDepth 20000 in
theorem gX5_point_X3_stray : GoodIn wsX5_point (wsV RX5 220 RX3 yX3_stray wsX3_stray) := goodIn_app (goodIn_of _ (by decide +kernel)) ggX5_point_X3_stray
theorem dX5_point_0 : decode cX5_point 0 = .ok (.aload_n 0, 1) := by decide +kernel
theorem dX5_point_1 : decode cX5_point 1 = .ok (.iload_n 1, 1) := by decide +kernel
theorem dX5_point_2 : decode cX5_point 2 = .ok (.invokevirtual 87, 3) := by decide +kernel
theorem dX5_point_5 : decode cX5_point 5 = .ok (.astore 4, 2) := by decide +kernel
theorem dX5_point_7 : decode cX5_point 7 = .ok (.aload 4, 2) := by decide +kernel
theorem dX5_point_9 : decode cX5_point 9 = .ok (.iload_n 2, 1) := by decide +kernel
theorem dX5_point_10 : decode cX5_point 10 = .ok (.invokestatic 112, 3) := by decide +kernel
theorem dX5_point_13 : decode cX5_point 13 = .ok (.iload_n 3, 1) := by decide +kernel
theorem dX5_point_14 : decode cX5_point 14 = .ok (.tableswitch 104 0 5 #[38, 45, 52, 59, 74, 97], 38) := by decide +kernel
theorem dX5_point_52 : decode cX5_point 52 = .ok (.aload 4, 2) := by decide +kernel
theorem dX5_point_54 : decode cX5_point 54 = .ok (.iload_n 2, 1) := by decide +kernel
theorem dX5_point_55 : decode cX5_point 55 = .ok (.invokevirtual 116, 3) := by decide +kernel
theorem dX5_point_58 : decode cX5_point 58 = .ok (.ireturn, 1) := by decide +kernel
theorem dX5_point_59 : decode cX5_point 59 = .ok (.aload 4, 2) := by decide +kernel
theorem dX5_point_61 : decode cX5_point 61 = .ok (.iload_n 2, 1) := by decide +kernel
theorem dX5_point_62 : decode cX5_point 62 = .ok (.invokevirtual 120, 3) := by decide +kernel
theorem dX5_point_65 : decode cX5_point 65 = .ok (.ireturn, 1) := by decide +kernel
theorem dX5_point_66 : decode cX5_point 66 = .ok (.aload 4, 2) := by decide +kernel
theorem dX5_point_68 : decode cX5_point 68 = .ok (.iload_n 2, 1) := by decide +kernel
theorem dX5_point_69 : decode cX5_point 69 = .ok (.invokevirtual 209, 3) := by decide +kernel
theorem dX5_point_72 : decode cX5_point 72 = .ok (.ireturn, 1) := by decide +kernel
theorem dX5_point_73 : decode cX5_point 73 = .ok (.aload 4, 2) := by decide +kernel
theorem dX5_point_75 : decode cX5_point 75 = .ok (.iload_n 2, 1) := by decide +kernel
theorem dX5_point_76 : decode cX5_point 76 = .ok (.invokevirtual 212, 3) := by decide +kernel
theorem dX5_point_79 : decode cX5_point 79 = .ok (.ifCond .eq 7, 3) := by decide +kernel
theorem dX5_point_82 : decode cX5_point 82 = .ok (.iconst 1, 1) := by decide +kernel
theorem dX5_point_83 : decode cX5_point 83 = .ok (.goto 4, 3) := by decide +kernel
theorem dX5_point_86 : decode cX5_point 86 = .ok (.iconst 0, 1) := by decide +kernel
theorem dX5_point_87 : decode cX5_point 87 = .ok (.ireturn, 1) := by decide +kernel
theorem dX5_point_88 : decode cX5_point 88 = .ok (.aload 4, 2) := by decide +kernel
theorem dX5_point_90 : decode cX5_point 90 = .ok (.iload_n 2, 1) := by decide +kernel
theorem dX5_point_91 : decode cX5_point 91 = .ok (.aload_n 0, 1) := by decide +kernel
theorem dX5_point_92 : decode cX5_point 92 = .ok (.getfield 10, 3) := by decide +kernel
theorem dX5_point_95 : decode cX5_point 95 = .ok (.iconst 1, 1) := by decide +kernel
theorem dX5_point_96 : decode cX5_point 96 = .ok (.invokevirtual 147, 3) := by decide +kernel
theorem dX5_point_99 : decode cX5_point 99 = .ok (.aload_n 0, 1) := by decide +kernel
theorem dX5_point_100 : decode cX5_point 100 = .ok (.getfield 10, 3) := by decide +kernel
theorem dX5_point_103 : decode cX5_point 103 = .ok (.iconst 2, 1) := by decide +kernel
theorem dX5_point_104 : decode cX5_point 104 = .ok (.invokevirtual 147, 3) := by decide +kernel
theorem dX5_point_107 : decode cX5_point 107 = .ok (.invokevirtual 216, 3) := by decide +kernel
theorem dX5_point_110 : decode cX5_point 110 = .ok (.ireturn, 1) := by decide +kernel
theorem dX5_point_111 : decode cX5_point 111 = .ok (.aload 4, 2) := by decide +kernel
theorem dX5_point_113 : decode cX5_point 113 = .ok (.iload_n 2, 1) := by decide +kernel
theorem dX5_point_114 : decode cX5_point 114 = .ok (.invokevirtual 220, 3) := by decide +kernel
theorem dX5_point_117 : decode cX5_point 117 = .ok (.ireturn, 1) := by decide +kernel
theorem dX5_point_118 : decode cX5_point 118 = .ok (.new 70, 3) := by decide +kernel
theorem dX5_point_121 : decode cX5_point 121 = .ok (.dup, 1) := by decide +kernel
theorem dX5_point_122 : decode cX5_point 122 = .ok (.ldc 223, 2) := by decide +kernel
theorem dX5_point_124 : decode cX5_point 124 = .ok (.invokespecial 74, 3) := by decide +kernel
theorem dX5_point_127 : decode cX5_point 127 = .ok (.athrow, 1) := by decide +kernel
set_option maxRecDepth 20000 in
theorem ggX5_strokeOf_X5_existingStroke : GoodIn wsX5_strokeOf wsX5_existingStroke := goodIn_ca (goodIn_r _ [8, 3, 9, 10, 11, 7, 12, 13, 14, 15, 16, 17, 18, 19, 20, 21, 22, 23, 24, 25, 26, 163, 164, 165, 166, 167, 168, 169, 170, 171, 172, 173] (by decide +kernel) (by decide +kernel)) (goodIn_sub (fun _ h => List.mem_cons_of_mem _ (List.mem_append_right _ h)) (by decide +kernel))
set_option maxRecDepth 20000 in
theorem gX5_strokeOf_X5_existingStroke : GoodIn wsX5_strokeOf (wsV RX5 87 RX5 yX5_existingStroke wsX5_existingStroke) := goodIn_app (goodIn_of _ (by decide +kernel)) ggX5_strokeOf_X5_existingStroke
set_option maxRecDepth 20000 in
theorem ggX5_strokeOf_X3_size : GoodIn wsX5_strokeOf wsX3_size := goodIn_r _ [31, 32, 174, 175, 176] (by decide +kernel) (by decide +kernel)
set_option maxRecDepth 20000 in
theorem gX5_strokeOf_X3_size : GoodIn wsX5_strokeOf (wsV RX5 91 RX3 yX3_size wsX3_size) := goodIn_app (goodIn_of _ (by decide +kernel)) ggX5_strokeOf_X3_size
set_option maxRecDepth 20000 in
theorem ggX5_strokeOf_X3_keptCount : GoodIn wsX5_strokeOf wsX3_keptCount := goodIn_r _ [36, 37, 38, 39, 40, 41, 42, 43, 44, 174, 175, 176] (by decide +kernel) (by decide +kernel)
set_option maxRecDepth 20000 in
theorem gX5_strokeOf_X3_keptCount : GoodIn wsX5_strokeOf (wsV RX5 157 RX3 yX3_keptCount wsX3_keptCount) := goodIn_app (goodIn_of _ (by decide +kernel)) ggX5_strokeOf_X3_keptCount
set_option maxRecDepth 20000 in
theorem ggX5_strokeOf_X1_countKind : GoodIn wsX5_strokeOf wsX1_countKind := goodIn_r _ [48, 49, 28, 29, 30, 31, 32, 50, 51, 52, 18, 53, 54, 55, 7, 56, 57, 58, 59, 60, 61, 62, 63, 64, 65, 66, 67, 68, 69, 70, 71, 72, 73, 74, 75, 76, 77, 78, 79, 80, 81, 82, 83, 84, 85, 86, 87, 88, 89, 90, 91, 92, 93, 94, 174, 175, 176, 168, 169, 170, 171, 172, 173] (by decide +kernel) (by decide +kernel)
set_option maxRecDepth 20000 in
theorem gX5_strokeOf_X1_countKind : GoodIn wsX5_strokeOf (wsV RX5 225 RX1 yX1_countKind wsX1_countKind) := goodIn_app (goodIn_of _ (by decide +kernel)) ggX5_strokeOf_X1_countKind
set_option maxRecDepth 20000 in
theorem ggX5_strokeOf_X3_keptLength : GoodIn wsX5_strokeOf wsX3_keptLength := goodIn_r _ [98, 32, 69, 99, 100, 101, 30, 102, 37, 103, 7, 104, 105, 106, 107, 108, 83, 84, 85, 86, 74, 75, 76, 77, 78, 79, 80, 81, 82, 109, 110, 174, 175, 176] (by decide +kernel) (by decide +kernel)
set_option maxRecDepth 20000 in
theorem gX5_strokeOf_X3_keptLength : GoodIn wsX5_strokeOf (wsV RX5 229 RX3 yX3_keptLength wsX3_keptLength) := goodIn_app (goodIn_of _ (by decide +kernel)) ggX5_strokeOf_X3_keptLength
set_option maxRecDepth 20000 in
theorem ggX5_strokeOf_X3_firstOfGreatestStray : GoodIn wsX5_strokeOf wsX3_firstOfGreatestStray := goodIn_r _ [114, 32, 115, 116, 117, 30, 118, 99, 100, 101, 102, 37, 103, 7, 104, 105, 106, 107, 108, 119, 120, 121, 122, 123, 124, 125, 126, 69, 127, 128, 129, 130, 131, 132, 133, 134, 83, 84, 85, 86, 74, 75, 76, 77, 78, 79, 80, 81, 82, 135, 136, 137, 138, 109, 110, 174, 175, 176] (by decide +kernel) (by decide +kernel)
set_option maxRecDepth 20000 in
theorem gX5_strokeOf_X3_firstOfGreatestStray : GoodIn wsX5_strokeOf (wsV RX5 232 RX3 yX3_firstOfGreatestStray wsX3_firstOfGreatestStray) := goodIn_app (goodIn_of _ (by decide +kernel)) ggX5_strokeOf_X3_firstOfGreatestStray
set_option maxRecDepth 20000 in
theorem ggX5_strokeOf_X3_stray : GoodIn wsX5_strokeOf wsX3_stray := goodIn_r _ [118, 99, 100, 101, 30, 102, 37, 103, 7, 104, 105, 106, 107, 108, 119, 120, 121, 122, 32, 123, 124, 125, 126, 69, 127, 128, 129, 130, 131, 132, 133, 134, 83, 84, 85, 86, 74, 75, 76, 77, 78, 79, 80, 81, 82, 135, 136, 137, 138, 109, 110, 174, 175, 176] (by decide +kernel) (by decide +kernel)
set_option maxRecDepth 20000 in
theorem gX5_strokeOf_X3_stray : GoodIn wsX5_strokeOf (wsV RX5 220 RX3 yX3_stray wsX3_stray) := goodIn_app (goodIn_of _ (by decide +kernel)) ggX5_strokeOf_X3_stray
set_option maxRecDepth 20000 in
theorem ggX5_strokeOf_X3_spanX : GoodIn wsX5_strokeOf wsX3_spanX := goodIn_r _ [143, 32, 144, 145, 133, 146, 147, 148, 149, 74, 75, 76, 30, 77, 78, 174, 175, 176] (by decide +kernel) (by decide +kernel)
set_option maxRecDepth 20000 in
theorem gX5_strokeOf_X3_spanX : GoodIn wsX5_strokeOf (wsV RX5 235 RX3 yX3_spanX wsX3_spanX) := goodIn_app (goodIn_of _ (by decide +kernel)) ggX5_strokeOf_X3_spanX
set_option maxRecDepth 20000 in
theorem ggX5_strokeOf_X3_spanY : GoodIn wsX5_strokeOf wsX3_spanY := goodIn_r _ [153, 32, 144, 145, 133, 146, 147, 148, 149, 79, 80, 81, 30, 82, 78, 174, 175, 176] (by decide +kernel) (by decide +kernel)
set_option maxRecDepth 20000 in
theorem gX5_strokeOf_X3_spanY : GoodIn wsX5_strokeOf (wsV RX5 238 RX3 yX3_spanY wsX3_spanY) := goodIn_app (goodIn_of _ (by decide +kernel)) ggX5_strokeOf_X3_spanY
set_option maxRecDepth 20000 in
theorem ggX5_strokeOf_X1_value : GoodIn wsX5_strokeOf wsX1_value := goodIn_r _ [53, 54, 55, 7, 56, 168, 169, 170, 171, 172, 173] (by decide +kernel) (by decide +kernel)
set_option maxRecDepth 20000 in
theorem gX5_strokeOf_X1_value : GoodIn wsX5_strokeOf (wsV RX5 147 RX1 yX1_value wsX1_value) := goodIn_app (goodIn_of _ (by decide +kernel)) ggX5_strokeOf_X1_value
set_option maxRecDepth 20000 in
theorem ggX5_strokeOf_X3_sharpJoins : GoodIn wsX5_strokeOf wsX3_sharpJoins := goodIn_r _ [158, 32, 99, 100, 101, 30, 102, 37, 103, 7, 104, 105, 106, 107, 108, 119, 120, 121, 122, 65, 66, 67, 68, 69, 70, 71, 72, 73, 74, 75, 76, 77, 78, 79, 80, 81, 82, 83, 84, 85, 86, 174, 175, 176] (by decide +kernel) (by decide +kernel)
set_option maxRecDepth 20000 in
theorem gX5_strokeOf_X3_sharpJoins : GoodIn wsX5_strokeOf (wsV RX5 241 RX3 yX3_sharpJoins wsX3_sharpJoins) := goodIn_app (goodIn_of _ (by decide +kernel)) ggX5_strokeOf_X3_sharpJoins
set_option maxRecDepth 20000 in
theorem ggX5_strokeOf_X3_kept : GoodIn wsX5_strokeOf wsX3_kept := goodIn_r _ [162, 37, 174, 175, 176] (by decide +kernel) (by decide +kernel)
set_option maxRecDepth 20000 in
theorem gX5_strokeOf_X3_kept : GoodIn wsX5_strokeOf (wsV RX5 244 RX3 yX3_kept wsX3_kept) := goodIn_app (goodIn_of _ (by decide +kernel)) ggX5_strokeOf_X3_kept
theorem dX5_strokeOf_0 : decode cX5_strokeOf 0 = .ok (.aload_n 0, 1) := by decide +kernel
theorem dX5_strokeOf_1 : decode cX5_strokeOf 1 = .ok (.iload_n 1, 1) := by decide +kernel
theorem dX5_strokeOf_2 : decode cX5_strokeOf 2 = .ok (.invokevirtual 87, 3) := by decide +kernel
theorem dX5_strokeOf_5 : decode cX5_strokeOf 5 = .ok (.astore_n 3, 1) := by decide +kernel
theorem dX5_strokeOf_6 : decode cX5_strokeOf 6 = .ok (.iload_n 2, 1) := by decide +kernel
theorem dX5_strokeOf_7 : decode cX5_strokeOf 7 = .ok (.tableswitch 134 0 10 #[57, 62, 67, 77, 87, 92, 101, 106, 111, 116, 129], 57) := by decide +kernel
theorem dX5_strokeOf_64 : decode cX5_strokeOf 64 = .ok (.aload_n 3, 1) := by decide +kernel
theorem dX5_strokeOf_65 : decode cX5_strokeOf 65 = .ok (.invokevirtual 91, 3) := by decide +kernel
theorem dX5_strokeOf_68 : decode cX5_strokeOf 68 = .ok (.ireturn, 1) := by decide +kernel
theorem dX5_strokeOf_69 : decode cX5_strokeOf 69 = .ok (.aload_n 3, 1) := by decide +kernel
theorem dX5_strokeOf_70 : decode cX5_strokeOf 70 = .ok (.invokevirtual 157, 3) := by decide +kernel
theorem dX5_strokeOf_73 : decode cX5_strokeOf 73 = .ok (.ireturn, 1) := by decide +kernel
theorem dX5_strokeOf_74 : decode cX5_strokeOf 74 = .ok (.aload_n 0, 1) := by decide +kernel
theorem dX5_strokeOf_75 : decode cX5_strokeOf 75 = .ok (.getfield 10, 3) := by decide +kernel
theorem dX5_strokeOf_78 : decode cX5_strokeOf 78 = .ok (.aload_n 3, 1) := by decide +kernel
theorem dX5_strokeOf_79 : decode cX5_strokeOf 79 = .ok (.iconst 2, 1) := by decide +kernel
theorem dX5_strokeOf_80 : decode cX5_strokeOf 80 = .ok (.invokevirtual 225, 3) := by decide +kernel
theorem dX5_strokeOf_83 : decode cX5_strokeOf 83 = .ok (.ireturn, 1) := by decide +kernel
theorem dX5_strokeOf_84 : decode cX5_strokeOf 84 = .ok (.aload_n 0, 1) := by decide +kernel
theorem dX5_strokeOf_85 : decode cX5_strokeOf 85 = .ok (.getfield 10, 3) := by decide +kernel
theorem dX5_strokeOf_88 : decode cX5_strokeOf 88 = .ok (.aload_n 3, 1) := by decide +kernel
theorem dX5_strokeOf_89 : decode cX5_strokeOf 89 = .ok (.iconst 4, 1) := by decide +kernel
theorem dX5_strokeOf_90 : decode cX5_strokeOf 90 = .ok (.invokevirtual 225, 3) := by decide +kernel
theorem dX5_strokeOf_93 : decode cX5_strokeOf 93 = .ok (.ireturn, 1) := by decide +kernel
theorem dX5_strokeOf_94 : decode cX5_strokeOf 94 = .ok (.aload_n 3, 1) := by decide +kernel
theorem dX5_strokeOf_95 : decode cX5_strokeOf 95 = .ok (.invokevirtual 229, 3) := by decide +kernel
theorem dX5_strokeOf_98 : decode cX5_strokeOf 98 = .ok (.ireturn, 1) := by decide +kernel
theorem dX5_strokeOf_99 : decode cX5_strokeOf 99 = .ok (.aload_n 3, 1) := by decide +kernel
theorem dX5_strokeOf_100 : decode cX5_strokeOf 100 = .ok (.aload_n 3, 1) := by decide +kernel
theorem dX5_strokeOf_101 : decode cX5_strokeOf 101 = .ok (.invokevirtual 232, 3) := by decide +kernel
theorem dX5_strokeOf_104 : decode cX5_strokeOf 104 = .ok (.invokevirtual 220, 3) := by decide +kernel
theorem dX5_strokeOf_107 : decode cX5_strokeOf 107 = .ok (.ireturn, 1) := by decide +kernel
theorem dX5_strokeOf_108 : decode cX5_strokeOf 108 = .ok (.aload_n 3, 1) := by decide +kernel
theorem dX5_strokeOf_109 : decode cX5_strokeOf 109 = .ok (.invokevirtual 232, 3) := by decide +kernel
theorem dX5_strokeOf_112 : decode cX5_strokeOf 112 = .ok (.ireturn, 1) := by decide +kernel
theorem dX5_strokeOf_113 : decode cX5_strokeOf 113 = .ok (.aload_n 3, 1) := by decide +kernel
theorem dX5_strokeOf_114 : decode cX5_strokeOf 114 = .ok (.invokevirtual 235, 3) := by decide +kernel
theorem dX5_strokeOf_117 : decode cX5_strokeOf 117 = .ok (.ireturn, 1) := by decide +kernel
theorem dX5_strokeOf_118 : decode cX5_strokeOf 118 = .ok (.aload_n 3, 1) := by decide +kernel
theorem dX5_strokeOf_119 : decode cX5_strokeOf 119 = .ok (.invokevirtual 238, 3) := by decide +kernel
theorem dX5_strokeOf_122 : decode cX5_strokeOf 122 = .ok (.ireturn, 1) := by decide +kernel
theorem dX5_strokeOf_123 : decode cX5_strokeOf 123 = .ok (.aload_n 3, 1) := by decide +kernel
theorem dX5_strokeOf_124 : decode cX5_strokeOf 124 = .ok (.aload_n 0, 1) := by decide +kernel
theorem dX5_strokeOf_125 : decode cX5_strokeOf 125 = .ok (.getfield 10, 3) := by decide +kernel
theorem dX5_strokeOf_128 : decode cX5_strokeOf 128 = .ok (.iconst 3, 1) := by decide +kernel
theorem dX5_strokeOf_129 : decode cX5_strokeOf 129 = .ok (.invokevirtual 147, 3) := by decide +kernel
theorem dX5_strokeOf_132 : decode cX5_strokeOf 132 = .ok (.invokevirtual 241, 3) := by decide +kernel
theorem dX5_strokeOf_135 : decode cX5_strokeOf 135 = .ok (.ireturn, 1) := by decide +kernel
theorem dX5_strokeOf_136 : decode cX5_strokeOf 136 = .ok (.aload_n 3, 1) := by decide +kernel
theorem dX5_strokeOf_137 : decode cX5_strokeOf 137 = .ok (.invokevirtual 244, 3) := by decide +kernel
theorem dX5_strokeOf_140 : decode cX5_strokeOf 140 = .ok (.ireturn, 1) := by decide +kernel
theorem dX5_strokeOf_141 : decode cX5_strokeOf 141 = .ok (.new 70, 3) := by decide +kernel
theorem dX5_strokeOf_144 : decode cX5_strokeOf 144 = .ok (.dup, 1) := by decide +kernel
theorem dX5_strokeOf_145 : decode cX5_strokeOf 145 = .ok (.ldc 247, 2) := by decide +kernel
theorem dX5_strokeOf_147 : decode cX5_strokeOf 147 = .ok (.invokespecial 74, 3) := by decide +kernel
theorem dX5_strokeOf_150 : decode cX5_strokeOf 150 = .ok (.athrow, 1) := by decide +kernel
set_option maxRecDepth 20000 in
theorem ggX5_crossings_X5_existingStroke : GoodIn wsX5_crossings wsX5_existingStroke := goodIn_ca (goodIn_r _ [5, 6, 7, 8, 9, 4, 10, 11, 12, 13, 14, 15, 16, 17, 18, 19, 20, 21, 22, 23, 24, 71, 72, 73, 74, 75, 76, 77, 78, 79, 80, 81] (by decide +kernel) (by decide +kernel)) (goodIn_sub (fun _ h => List.mem_cons_of_mem _ (List.mem_append_right _ h)) (by decide +kernel))
set_option maxRecDepth 20000 in
theorem gX5_crossings_X5_existingStroke : GoodIn wsX5_crossings (wsV RX5 87 RX5 yX5_existingStroke wsX5_existingStroke) := goodIn_app (goodIn_of _ (by decide +kernel)) ggX5_crossings_X5_existingStroke
set_option maxRecDepth 20000 in
theorem ggX5_crossings_X3_countCrossings : GoodIn wsX5_crossings wsX3_countCrossings := goodIn_r _ [29, 30, 31, 32, 33, 28, 34, 35, 36, 4, 37, 38, 39, 40, 41, 42, 43, 44, 45, 46, 47, 48, 49, 50, 51, 52, 53, 54, 55, 56, 57, 58, 59, 60, 61, 62, 63, 64, 65, 66, 67, 68, 69, 70, 82, 83, 84] (by decide +kernel) (by decide +kernel)
set_option maxRecDepth 20000 in
theorem gX5_crossings_X3_countCrossings : GoodIn wsX5_crossings (wsV RX5 252 RX3 yX3_countCrossings wsX3_countCrossings) := goodIn_app (goodIn_of _ (by decide +kernel)) ggX5_crossings_X3_countCrossings
theorem dX5_crossings_0 : decode cX5_crossings 0 = .ok (.aload_n 0, 1) := by decide +kernel
theorem dX5_crossings_1 : decode cX5_crossings 1 = .ok (.iload_n 1, 1) := by decide +kernel
theorem dX5_crossings_2 : decode cX5_crossings 2 = .ok (.invokevirtual 87, 3) := by decide +kernel
theorem dX5_crossings_5 : decode cX5_crossings 5 = .ok (.invokevirtual 252, 3) := by decide +kernel
theorem dX5_crossings_8 : decode cX5_crossings 8 = .ok (.ireturn, 1) := by decide +kernel
set_option maxRecDepth 20000 in
theorem ggX5_setting_X5_requireSetting : GoodIn wsX5_setting wsX5_requireSetting := goodIn_ca (goodIn_r _ [5, 6, 7, 8] (by decide +kernel) (by decide +kernel)) (goodIn_sub (fun _ h => List.mem_cons_of_mem _ (List.mem_append_right _ h)) (by decide +kernel))
set_option maxRecDepth 20000 in
theorem gX5_setting_X5_requireSetting : GoodIn wsX5_setting (va_wsS RX5 166 yX5_requireSetting wsX5_requireSetting) := goodIn_app (goodIn_of _ (by decide +kernel)) ggX5_setting_X5_requireSetting
set_option maxRecDepth 20000 in
theorem ggX5_setting_X1_value : GoodIn wsX5_setting wsX1_value := goodIn_r _ [13, 14, 15, 4, 16, 22, 23, 24, 25, 26, 27] (by decide +kernel) (by decide +kernel)
set_option maxRecDepth 20000 in
theorem gX5_setting_X1_value : GoodIn wsX5_setting (wsV RX5 147 RX1 yX1_value wsX1_value) := goodIn_app (goodIn_of _ (by decide +kernel)) ggX5_setting_X1_value
theorem dX5_setting_0 : decode cX5_setting 0 = .ok (.iload_n 1, 1) := by decide +kernel
theorem dX5_setting_1 : decode cX5_setting 1 = .ok (.invokestatic 166, 3) := by decide +kernel
theorem dX5_setting_4 : decode cX5_setting 4 = .ok (.aload_n 0, 1) := by decide +kernel
theorem dX5_setting_5 : decode cX5_setting 5 = .ok (.getfield 10, 3) := by decide +kernel
theorem dX5_setting_8 : decode cX5_setting 8 = .ok (.iload_n 1, 1) := by decide +kernel
theorem dX5_setting_9 : decode cX5_setting 9 = .ok (.invokevirtual 147, 3) := by decide +kernel
theorem dX5_setting_12 : decode cX5_setting 12 = .ok (.ireturn, 1) := by decide +kernel
set_option maxRecDepth 20000 in
theorem ggX5_ifSimplified_X5_existingStroke : GoodIn wsX5_ifSimplified wsX5_existingStroke := goodIn_ca (goodIn_r _ [7, 2, 8, 9, 10, 6, 11, 12, 13, 14, 15, 16, 17, 18, 19, 20, 21, 22, 23, 24, 25, 149, 150, 151, 152, 153, 154, 155, 156, 157, 158, 159] (by decide +kernel) (by decide +kernel)) (goodIn_sub (fun _ h => List.mem_cons_of_mem _ (List.mem_append_left _ (List.mem_append_right _ h))) (by decide +kernel))
set_option maxRecDepth 20000 in
theorem gX5_ifSimplified_X5_existingStroke : GoodIn wsX5_ifSimplified (wsV RX5 87 RX5 yX5_existingStroke wsX5_existingStroke) := goodIn_app (goodIn_of _ (by decide +kernel)) ggX5_ifSimplified_X5_existingStroke
set_option maxRecDepth 20000 in
theorem ggX5_ifSimplified_X5_requireBetween : GoodIn wsX5_ifSimplified wsX5_requireBetween := goodIn_ca (goodIn_r _ [28, 29, 30] (by decide +kernel) (by decide +kernel)) (goodIn_sub (fun _ h => List.mem_cons_of_mem _ (List.mem_append_right _ h)) (by decide +kernel))
set_option maxRecDepth 20000 in
theorem gX5_ifSimplified_X5_requireBetween : GoodIn wsX5_ifSimplified (va_wsS RX5 180 yX5_requireBetween wsX5_requireBetween) := goodIn_app (goodIn_of _ (by decide +kernel)) ggX5_ifSimplified_X5_requireBetween
set_option maxRecDepth 20000 in
theorem ggX5_ifSimplified_X5_requireWay : GoodIn wsX5_ifSimplified wsX5_requireWay := goodIn_ca (goodIn_r _ [33, 26, 27, 6, 28, 29, 30] (by decide +kernel) (by decide +kernel)) (goodIn_sub (fun _ h => List.mem_cons_of_mem _ (List.mem_append_right _ h)) (by decide +kernel))
set_option maxRecDepth 20000 in
theorem gX5_ifSimplified_X5_requireWay : GoodIn wsX5_ifSimplified (va_wsS RX5 140 yX5_requireWay wsX5_requireWay) := goodIn_app (goodIn_of _ (by decide +kernel)) ggX5_ifSimplified_X5_requireWay
set_option maxRecDepth 20000 in
theorem ggX5_ifSimplified_X1_fixedPoints : GoodIn wsX5_ifSimplified wsX1_fixedPoints := goodIn_r _ [37, 38, 39, 40, 41, 42, 43, 44, 45, 46, 17, 47, 48, 49, 6, 50, 51, 52, 53, 54, 55, 56, 57, 58, 59, 60, 61, 62, 63, 64, 65, 66, 67, 68, 69, 70, 71, 72, 73, 74, 75, 76, 77, 78, 79, 80, 81, 82, 83, 84, 85, 86, 87, 88, 160, 161, 162, 154, 155, 156, 157, 158, 159] (by decide +kernel) (by decide +kernel)
set_option maxRecDepth 20000 in
theorem gX5_ifSimplified_X1_fixedPoints : GoodIn wsX5_ifSimplified (wsV RX5 143 RX1 yX1_fixedPoints wsX1_fixedPoints) := goodIn_app (goodIn_of _ (by decide +kernel)) ggX5_ifSimplified_X1_fixedPoints
set_option maxRecDepth 20000 in
theorem ggX5_ifSimplified_X2_keptPoints : GoodIn wsX5_ifSimplified wsX2_keptPoints := goodIn_r _ [93, 94, 95, 96, 92, 97, 98, 39, 40, 41, 42, 43, 99, 100, 101, 102, 103, 6, 104, 105, 106, 107, 108, 109, 110, 111, 112, 113, 114, 115, 116, 68, 69, 70, 71, 72, 73, 74, 75, 76, 117, 118, 119, 120, 121, 77, 78, 79, 80, 122, 123, 124, 125, 126, 127, 128, 129, 130, 131, 132, 133, 134, 135, 136, 137, 138, 139, 140, 141, 49, 50, 160, 161, 162, 163, 164, 165] (by decide +kernel) (by decide +kernel)
set_option maxRecDepth 20000 in
theorem gX5_ifSimplified_X2_keptPoints : GoodIn wsX5_ifSimplified (wsV RX5 150 RX2 yX2_keptPoints wsX2_keptPoints) := goodIn_app (goodIn_of _ (by decide +kernel)) ggX5_ifSimplified_X2_keptPoints
set_option maxRecDepth 20000 in
theorem ggX5_ifSimplified_J6_bitCount_0f7a4 : GoodIn wsX5_ifSimplified wsJ6_bitCount_0f7a4 := goodIn_r _ [145, 146, 147, 148] (by decide +kernel) (by decide +kernel)
set_option maxRecDepth 20000 in
theorem gX5_ifSimplified_J6_bitCount_0f7a4 : GoodIn wsX5_ifSimplified (va_wsS RX5 273 yJ6_bitCount_0f7a4 wsJ6_bitCount_0f7a4) := goodIn_app (goodIn_of _ (by decide +kernel)) ggX5_ifSimplified_J6_bitCount_0f7a4
theorem dX5_ifSimplified_0 : decode cX5_ifSimplified 0 = .ok (.aload_n 0, 1) := by decide +kernel
theorem dX5_ifSimplified_1 : decode cX5_ifSimplified 1 = .ok (.iload_n 1, 1) := by decide +kernel
theorem dX5_ifSimplified_2 : decode cX5_ifSimplified 2 = .ok (.invokevirtual 87, 3) := by decide +kernel
theorem dX5_ifSimplified_5 : decode cX5_ifSimplified 5 = .ok (.astore 4, 2) := by decide +kernel
theorem dX5_ifSimplified_7 : decode cX5_ifSimplified 7 = .ok (.iload_n 2, 1) := by decide +kernel
theorem dX5_ifSimplified_8 : decode cX5_ifSimplified 8 = .ok (.iconst 0, 1) := by decide +kernel
theorem dX5_ifSimplified_9 : decode cX5_ifSimplified 9 = .ok (.bipush 50, 2) := by decide +kernel
theorem dX5_ifSimplified_11 : decode cX5_ifSimplified 11 = .ok (.invokestatic 180, 3) := by decide +kernel
theorem dX5_ifSimplified_14 : decode cX5_ifSimplified 14 = .ok (.iload_n 3, 1) := by decide +kernel
theorem dX5_ifSimplified_15 : decode cX5_ifSimplified 15 = .ok (.invokestatic 140, 3) := by decide +kernel
theorem dX5_ifSimplified_18 : decode cX5_ifSimplified 18 = .ok (.aload_n 0, 1) := by decide +kernel
theorem dX5_ifSimplified_19 : decode cX5_ifSimplified 19 = .ok (.getfield 37, 3) := by decide +kernel
theorem dX5_ifSimplified_22 : decode cX5_ifSimplified 22 = .ok (.aload 4, 2) := by decide +kernel
theorem dX5_ifSimplified_24 : decode cX5_ifSimplified 24 = .ok (.aload_n 0, 1) := by decide +kernel
theorem dX5_ifSimplified_25 : decode cX5_ifSimplified 25 = .ok (.getfield 10, 3) := by decide +kernel
theorem dX5_ifSimplified_28 : decode cX5_ifSimplified 28 = .ok (.aload 4, 2) := by decide +kernel
theorem dX5_ifSimplified_30 : decode cX5_ifSimplified 30 = .ok (.invokevirtual 143, 3) := by decide +kernel
theorem dX5_ifSimplified_33 : decode cX5_ifSimplified 33 = .ok (.iload_n 2, 1) := by decide +kernel
theorem dX5_ifSimplified_34 : decode cX5_ifSimplified 34 = .ok (.iload_n 3, 1) := by decide +kernel
theorem dX5_ifSimplified_35 : decode cX5_ifSimplified 35 = .ok (.invokevirtual 150, 3) := by decide +kernel
theorem dX5_ifSimplified_38 : decode cX5_ifSimplified 38 = .ok (.invokestatic 273, 3) := by decide +kernel
theorem dX5_ifSimplified_41 : decode cX5_ifSimplified 41 = .ok (.ireturn, 1) := by decide +kernel
set_option maxRecDepth 20000 in
theorem ggX5_leastBound_X5_existingStroke : GoodIn wsX5_leastBound wsX5_existingStroke := goodIn_ca (goodIn_r _ [7, 2, 8, 9, 10, 6, 11, 12, 13, 14, 15, 16, 17, 18, 19, 20, 21, 22, 23, 24, 25, 149, 150, 151, 152, 153, 154, 155, 156, 157, 158, 159] (by decide +kernel) (by decide +kernel)) (goodIn_sub (fun _ h => List.mem_cons_of_mem _ (List.mem_append_left _ (List.mem_append_right _ h))) (by decide +kernel))
set_option maxRecDepth 20000 in
theorem gX5_leastBound_X5_existingStroke : GoodIn wsX5_leastBound (wsV RX5 87 RX5 yX5_existingStroke wsX5_existingStroke) := goodIn_app (goodIn_of _ (by decide +kernel)) ggX5_leastBound_X5_existingStroke
set_option maxRecDepth 20000 in
theorem ggX5_leastBound_X5_requireBetween : GoodIn wsX5_leastBound wsX5_requireBetween := goodIn_ca (goodIn_r _ [28, 29, 30] (by decide +kernel) (by decide +kernel)) (goodIn_sub (fun _ h => List.mem_cons_of_mem _ (List.mem_append_right _ h)) (by decide +kernel))
set_option maxRecDepth 20000 in
theorem gX5_leastBound_X5_requireBetween : GoodIn wsX5_leastBound (va_wsS RX5 180 yX5_requireBetween wsX5_requireBetween) := goodIn_app (goodIn_of _ (by decide +kernel)) ggX5_leastBound_X5_requireBetween
set_option maxRecDepth 20000 in
theorem ggX5_leastBound_X5_requireWay : GoodIn wsX5_leastBound wsX5_requireWay := goodIn_ca (goodIn_r _ [33, 26, 27, 6, 28, 29, 30] (by decide +kernel) (by decide +kernel)) (goodIn_sub (fun _ h => List.mem_cons_of_mem _ (List.mem_append_right _ h)) (by decide +kernel))
set_option maxRecDepth 20000 in
theorem gX5_leastBound_X5_requireWay : GoodIn wsX5_leastBound (va_wsS RX5 140 yX5_requireWay wsX5_requireWay) := goodIn_app (goodIn_of _ (by decide +kernel)) ggX5_leastBound_X5_requireWay
set_option maxRecDepth 20000 in
theorem ggX5_leastBound_X1_fixedPoints : GoodIn wsX5_leastBound wsX1_fixedPoints := goodIn_r _ [37, 38, 39, 40, 41, 42, 43, 44, 45, 46, 17, 47, 48, 49, 6, 50, 51, 52, 53, 54, 55, 56, 57, 58, 59, 60, 61, 62, 63, 64, 65, 66, 67, 68, 69, 70, 71, 72, 73, 74, 75, 76, 77, 78, 79, 80, 81, 82, 83, 84, 85, 86, 87, 88, 160, 161, 162, 154, 155, 156, 157, 158, 159] (by decide +kernel) (by decide +kernel)
set_option maxRecDepth 20000 in
theorem gX5_leastBound_X1_fixedPoints : GoodIn wsX5_leastBound (wsV RX5 143 RX1 yX1_fixedPoints wsX1_fixedPoints) := goodIn_app (goodIn_of _ (by decide +kernel)) ggX5_leastBound_X1_fixedPoints
set_option maxRecDepth 20000 in
theorem ggX5_leastBound_X2_leastBoundFor : GoodIn wsX5_leastBound wsX2_leastBoundFor := goodIn_r _ [93, 94, 95, 96, 92, 97, 98, 99, 39, 40, 41, 42, 43, 100, 101, 102, 103, 104, 105, 106, 107, 108, 109, 110, 111, 112, 113, 114, 115, 68, 69, 70, 71, 72, 73, 74, 75, 76, 116, 117, 118, 119, 120, 77, 78, 79, 80, 121, 122, 123, 124, 6, 125, 126, 127, 128, 129, 130, 131, 132, 133, 49, 50, 134, 135, 136, 137, 138, 139, 140, 141, 142, 143, 144, 145, 146, 147, 148, 163, 164, 165, 160, 161, 162] (by decide +kernel) (by decide +kernel)
set_option maxRecDepth 20000 in
theorem gX5_leastBound_X2_leastBoundFor : GoodIn wsX5_leastBound (wsV RX5 278 RX2 yX2_leastBoundFor wsX2_leastBoundFor) := goodIn_app (goodIn_of _ (by decide +kernel)) ggX5_leastBound_X2_leastBoundFor
theorem dX5_leastBound_0 : decode cX5_leastBound 0 = .ok (.aload_n 0, 1) := by decide +kernel
theorem dX5_leastBound_1 : decode cX5_leastBound 1 = .ok (.iload_n 1, 1) := by decide +kernel
theorem dX5_leastBound_2 : decode cX5_leastBound 2 = .ok (.invokevirtual 87, 3) := by decide +kernel
theorem dX5_leastBound_5 : decode cX5_leastBound 5 = .ok (.astore 4, 2) := by decide +kernel
theorem dX5_leastBound_7 : decode cX5_leastBound 7 = .ok (.iload_n 2, 1) := by decide +kernel
theorem dX5_leastBound_8 : decode cX5_leastBound 8 = .ok (.iconst 2, 1) := by decide +kernel
theorem dX5_leastBound_9 : decode cX5_leastBound 9 = .ok (.bipush 24, 2) := by decide +kernel
theorem dX5_leastBound_11 : decode cX5_leastBound 11 = .ok (.invokestatic 180, 3) := by decide +kernel
theorem dX5_leastBound_14 : decode cX5_leastBound 14 = .ok (.iload_n 3, 1) := by decide +kernel
theorem dX5_leastBound_15 : decode cX5_leastBound 15 = .ok (.invokestatic 140, 3) := by decide +kernel
theorem dX5_leastBound_18 : decode cX5_leastBound 18 = .ok (.aload_n 0, 1) := by decide +kernel
theorem dX5_leastBound_19 : decode cX5_leastBound 19 = .ok (.getfield 37, 3) := by decide +kernel
theorem dX5_leastBound_22 : decode cX5_leastBound 22 = .ok (.aload 4, 2) := by decide +kernel
theorem dX5_leastBound_24 : decode cX5_leastBound 24 = .ok (.aload_n 0, 1) := by decide +kernel
theorem dX5_leastBound_25 : decode cX5_leastBound 25 = .ok (.getfield 10, 3) := by decide +kernel
theorem dX5_leastBound_28 : decode cX5_leastBound 28 = .ok (.aload 4, 2) := by decide +kernel
theorem dX5_leastBound_30 : decode cX5_leastBound 30 = .ok (.invokevirtual 143, 3) := by decide +kernel
theorem dX5_leastBound_33 : decode cX5_leastBound 33 = .ok (.iload_n 2, 1) := by decide +kernel
theorem dX5_leastBound_34 : decode cX5_leastBound 34 = .ok (.iload_n 3, 1) := by decide +kernel
theorem dX5_leastBound_35 : decode cX5_leastBound 35 = .ok (.invokevirtual 278, 3) := by decide +kernel
theorem dX5_leastBound_38 : decode cX5_leastBound 38 = .ok (.ireturn, 1) := by decide +kernel
set_option maxRecDepth 20000 in
theorem ggX5_requireStroke_X1_strokeCount : GoodIn wsX5_requireStroke wsX1_strokeCount := goodIn_r _ [8, 9, 15, 16, 17, 18, 19, 20] (by decide +kernel) (by decide +kernel)
set_option maxRecDepth 20000 in
theorem gX5_requireStroke_X1_strokeCount : GoodIn wsX5_requireStroke (wsV RX5 62 RX1 yX1_strokeCount wsX1_strokeCount) := goodIn_app (goodIn_of _ (by decide +kernel)) ggX5_requireStroke_X1_strokeCount
theorem dX5_requireStroke_0 : decode cX5_requireStroke 0 = .ok (.iload_n 1, 1) := by decide +kernel
theorem dX5_requireStroke_1 : decode cX5_requireStroke 1 = .ok (.ifCond .lt 14, 3) := by decide +kernel
theorem dX5_requireStroke_4 : decode cX5_requireStroke 4 = .ok (.iload_n 1, 1) := by decide +kernel
theorem dX5_requireStroke_5 : decode cX5_requireStroke 5 = .ok (.aload_n 0, 1) := by decide +kernel
theorem dX5_requireStroke_6 : decode cX5_requireStroke 6 = .ok (.getfield 10, 3) := by decide +kernel
theorem dX5_requireStroke_9 : decode cX5_requireStroke 9 = .ok (.invokevirtual 62, 3) := by decide +kernel
theorem dX5_requireStroke_12 : decode cX5_requireStroke 12 = .ok (.if_icmp .lt 14, 3) := by decide +kernel
theorem dX5_requireStroke_15 : decode cX5_requireStroke 15 = .ok (.new 94, 3) := by decide +kernel
theorem dX5_requireStroke_18 : decode cX5_requireStroke 18 = .ok (.dup, 1) := by decide +kernel
theorem dX5_requireStroke_19 : decode cX5_requireStroke 19 = .ok (.ldc_w 281, 3) := by decide +kernel
theorem dX5_requireStroke_22 : decode cX5_requireStroke 22 = .ok (.invokespecial 98, 3) := by decide +kernel
theorem dX5_requireStroke_25 : decode cX5_requireStroke 25 = .ok (.athrow, 1) := by decide +kernel
theorem dX5_requireStroke_26 : decode cX5_requireStroke 26 = .ok (.return_, 1) := by decide +kernel
set_option maxRecDepth 20000 in
theorem ggX5_existingStroke_X5_requireStroke : GoodIn wsX5_existingStroke wsX5_requireStroke := goodIn_ca (goodIn_r _ [6, 7, 8, 1, 9, 10, 11, 12, 13, 14, 21, 22, 23, 24, 25, 26, 27, 28, 29, 30, 31] (by decide +kernel) (by decide +kernel)) (goodIn_sub (fun _ h => List.mem_cons_of_mem _ (List.mem_append_right _ h)) (by decide +kernel))
set_option maxRecDepth 20000 in
theorem gX5_existingStroke_X5_requireStroke : GoodIn wsX5_existingStroke (wsV RX5 134 RX5 yX5_requireStroke wsX5_requireStroke) := goodIn_app (goodIn_of _ (by decide +kernel)) ggX5_existingStroke_X5_requireStroke
set_option maxRecDepth 20000 in
theorem ggX5_existingStroke_X1_strokeAt : GoodIn wsX5_existingStroke wsX1_strokeAt := goodIn_r _ [18, 19, 20, 26, 27, 28, 29, 30, 31] (by decide +kernel) (by decide +kernel)
set_option maxRecDepth 20000 in
theorem gX5_existingStroke_X1_strokeAt : GoodIn wsX5_existingStroke (wsV RX5 283 RX1 yX1_strokeAt wsX1_strokeAt) := goodIn_app (goodIn_of _ (by decide +kernel)) ggX5_existingStroke_X1_strokeAt
theorem dX5_existingStroke_0 : decode cX5_existingStroke 0 = .ok (.aload_n 0, 1) := by decide +kernel
theorem dX5_existingStroke_1 : decode cX5_existingStroke 1 = .ok (.iload_n 1, 1) := by decide +kernel
theorem dX5_existingStroke_2 : decode cX5_existingStroke 2 = .ok (.invokevirtual 134, 3) := by decide +kernel
theorem dX5_existingStroke_5 : decode cX5_existingStroke 5 = .ok (.aload_n 0, 1) := by decide +kernel
theorem dX5_existingStroke_6 : decode cX5_existingStroke 6 = .ok (.getfield 10, 3) := by decide +kernel
theorem dX5_existingStroke_9 : decode cX5_existingStroke 9 = .ok (.iload_n 1, 1) := by decide +kernel
theorem dX5_existingStroke_10 : decode cX5_existingStroke 10 = .ok (.invokevirtual 283, 3) := by decide +kernel
theorem dX5_existingStroke_13 : decode cX5_existingStroke 13 = .ok (.areturn, 1) := by decide +kernel
set_option maxRecDepth 20000 in
theorem ggX5_requireRoomForStroke_X1_strokeCount : GoodIn wsX5_requireRoomForStroke wsX1_strokeCount := goodIn_r _ [8, 9, 15, 16, 17, 18, 19, 20] (by decide +kernel) (by decide +kernel)
set_option maxRecDepth 20000 in
theorem gX5_requireRoomForStroke_X1_strokeCount : GoodIn wsX5_requireRoomForStroke (wsV RX5 62 RX1 yX1_strokeCount wsX1_strokeCount) := goodIn_app (goodIn_of _ (by decide +kernel)) ggX5_requireRoomForStroke_X1_strokeCount
theorem dX5_requireRoomForStroke_0 : decode cX5_requireRoomForStroke 0 = .ok (.aload_n 0, 1) := by decide +kernel
theorem dX5_requireRoomForStroke_1 : decode cX5_requireRoomForStroke 1 = .ok (.getfield 10, 3) := by decide +kernel
theorem dX5_requireRoomForStroke_4 : decode cX5_requireRoomForStroke 4 = .ok (.invokevirtual 62, 3) := by decide +kernel
theorem dX5_requireRoomForStroke_7 : decode cX5_requireRoomForStroke 7 = .ok (.iconst 4, 1) := by decide +kernel
theorem dX5_requireRoomForStroke_8 : decode cX5_requireRoomForStroke 8 = .ok (.if_icmp .lt 14, 3) := by decide +kernel
theorem dX5_requireRoomForStroke_11 : decode cX5_requireRoomForStroke 11 = .ok (.new 103, 3) := by decide +kernel
theorem dX5_requireRoomForStroke_14 : decode cX5_requireRoomForStroke 14 = .ok (.dup, 1) := by decide +kernel
theorem dX5_requireRoomForStroke_15 : decode cX5_requireRoomForStroke 15 = .ok (.ldc_w 286, 3) := by decide +kernel
theorem dX5_requireRoomForStroke_18 : decode cX5_requireRoomForStroke 18 = .ok (.invokespecial 107, 3) := by decide +kernel
theorem dX5_requireRoomForStroke_21 : decode cX5_requireRoomForStroke 21 = .ok (.athrow, 1) := by decide +kernel
theorem dX5_requireRoomForStroke_22 : decode cX5_requireRoomForStroke 22 = .ok (.return_, 1) := by decide +kernel
set_option maxRecDepth 20000 in
theorem ggX5_requirePoint_X3_size : GoodIn wsX5_requirePoint wsX3_size := goodIn_r _ [7, 8, 9, 10, 11] (by decide +kernel) (by decide +kernel)
set_option maxRecDepth 20000 in
theorem gX5_requirePoint_X3_size : GoodIn wsX5_requirePoint (wsV RX5 91 RX3 yX3_size wsX3_size) := goodIn_app (goodIn_of _ (by decide +kernel)) ggX5_requirePoint_X3_size
theorem dX5_requirePoint_0 : decode cX5_requirePoint 0 = .ok (.iload_n 1, 1) := by decide +kernel
theorem dX5_requirePoint_1 : decode cX5_requirePoint 1 = .ok (.ifCond .lt 11, 3) := by decide +kernel
theorem dX5_requirePoint_4 : decode cX5_requirePoint 4 = .ok (.iload_n 1, 1) := by decide +kernel
theorem dX5_requirePoint_5 : decode cX5_requirePoint 5 = .ok (.aload_n 0, 1) := by decide +kernel
theorem dX5_requirePoint_6 : decode cX5_requirePoint 6 = .ok (.invokevirtual 91, 3) := by decide +kernel
theorem dX5_requirePoint_9 : decode cX5_requirePoint 9 = .ok (.if_icmp .lt 14, 3) := by decide +kernel
theorem dX5_requirePoint_12 : decode cX5_requirePoint 12 = .ok (.new 94, 3) := by decide +kernel
theorem dX5_requirePoint_15 : decode cX5_requirePoint 15 = .ok (.dup, 1) := by decide +kernel
theorem dX5_requirePoint_16 : decode cX5_requirePoint 16 = .ok (.ldc_w 288, 3) := by decide +kernel
theorem dX5_requirePoint_19 : decode cX5_requirePoint 19 = .ok (.invokespecial 98, 3) := by decide +kernel
theorem dX5_requirePoint_22 : decode cX5_requirePoint 22 = .ok (.athrow, 1) := by decide +kernel
theorem dX5_requirePoint_23 : decode cX5_requirePoint 23 = .ok (.return_, 1) := by decide +kernel
theorem dX5_requireSetting_0 : decode cX5_requireSetting 0 = .ok (.iload_n 0, 1) := by decide +kernel
theorem dX5_requireSetting_1 : decode cX5_requireSetting 1 = .ok (.ifCond .lt 11, 3) := by decide +kernel
theorem dX5_requireSetting_4 : decode cX5_requireSetting 4 = .ok (.iload_n 0, 1) := by decide +kernel
theorem dX5_requireSetting_5 : decode cX5_requireSetting 5 = .ok (.getstatic 290, 3) := by decide +kernel
theorem dX5_requireSetting_8 : decode cX5_requireSetting 8 = .ok (.arraylength, 1) := by decide +kernel
theorem dX5_requireSetting_9 : decode cX5_requireSetting 9 = .ok (.if_icmp .lt 14, 3) := by decide +kernel
theorem dX5_requireSetting_12 : decode cX5_requireSetting 12 = .ok (.new 94, 3) := by decide +kernel
theorem dX5_requireSetting_15 : decode cX5_requireSetting 15 = .ok (.dup, 1) := by decide +kernel
theorem dX5_requireSetting_16 : decode cX5_requireSetting 16 = .ok (.ldc_w 293, 3) := by decide +kernel
theorem dX5_requireSetting_19 : decode cX5_requireSetting 19 = .ok (.invokespecial 98, 3) := by decide +kernel
theorem dX5_requireSetting_22 : decode cX5_requireSetting 22 = .ok (.athrow, 1) := by decide +kernel
theorem dX5_requireSetting_23 : decode cX5_requireSetting 23 = .ok (.return_, 1) := by decide +kernel
set_option maxRecDepth 20000 in
theorem ggX5_requirePlace_X5_requireBetween : GoodIn wsX5_requirePlace wsX5_requireBetween := goodIn_ca (goodIn_r _ [4, 5, 6] (by decide +kernel) (by decide +kernel)) (goodIn_sub (fun _ h => List.mem_cons_of_mem _ (List.mem_append_right _ h)) (by decide +kernel))
set_option maxRecDepth 20000 in
theorem gX5_requirePlace_X5_requireBetween : GoodIn wsX5_requirePlace (va_wsS RX5 180 yX5_requireBetween wsX5_requireBetween) := goodIn_app (goodIn_of _ (by decide +kernel)) ggX5_requirePlace_X5_requireBetween
theorem dX5_requirePlace_0 : decode cX5_requirePlace 0 = .ok (.iload_n 0, 1) := by decide +kernel
theorem dX5_requirePlace_1 : decode cX5_requirePlace 1 = .ok (.iconst 0, 1) := by decide +kernel
theorem dX5_requirePlace_2 : decode cX5_requirePlace 2 = .ok (.bipush 99, 2) := by decide +kernel
theorem dX5_requirePlace_4 : decode cX5_requirePlace 4 = .ok (.invokestatic 180, 3) := by decide +kernel
theorem dX5_requirePlace_7 : decode cX5_requirePlace 7 = .ok (.iload_n 1, 1) := by decide +kernel
theorem dX5_requirePlace_8 : decode cX5_requirePlace 8 = .ok (.iconst 0, 1) := by decide +kernel
theorem dX5_requirePlace_9 : decode cX5_requirePlace 9 = .ok (.bipush 99, 2) := by decide +kernel
theorem dX5_requirePlace_11 : decode cX5_requirePlace 11 = .ok (.invokestatic 180, 3) := by decide +kernel
theorem dX5_requirePlace_14 : decode cX5_requirePlace 14 = .ok (.return_, 1) := by decide +kernel
set_option maxRecDepth 20000 in
theorem ggX5_requireWidth_X5_requireBetween : GoodIn wsX5_requireWidth wsX5_requireBetween := goodIn_ca (goodIn_r _ [4, 5, 6] (by decide +kernel) (by decide +kernel)) (goodIn_sub (fun _ h => List.mem_cons_of_mem _ (List.mem_append_right _ h)) (by decide +kernel))
set_option maxRecDepth 20000 in
theorem gX5_requireWidth_X5_requireBetween : GoodIn wsX5_requireWidth (va_wsS RX5 180 yX5_requireBetween wsX5_requireBetween) := goodIn_app (goodIn_of _ (by decide +kernel)) ggX5_requireWidth_X5_requireBetween
theorem dX5_requireWidth_0 : decode cX5_requireWidth 0 = .ok (.iload_n 0, 1) := by decide +kernel
theorem dX5_requireWidth_1 : decode cX5_requireWidth 1 = .ok (.iconst 1, 1) := by decide +kernel
theorem dX5_requireWidth_2 : decode cX5_requireWidth 2 = .ok (.bipush 20, 2) := by decide +kernel
theorem dX5_requireWidth_4 : decode cX5_requireWidth 4 = .ok (.invokestatic 180, 3) := by decide +kernel
theorem dX5_requireWidth_7 : decode cX5_requireWidth 7 = .ok (.return_, 1) := by decide +kernel
set_option maxRecDepth 20000 in
theorem ggX5_requireWay_X5_requireBetween : GoodIn wsX5_requireWay wsX5_requireBetween := goodIn_ca (goodIn_r _ [4, 5, 6] (by decide +kernel) (by decide +kernel)) (goodIn_sub (fun _ h => List.mem_cons_of_mem _ (List.mem_append_right _ h)) (by decide +kernel))
set_option maxRecDepth 20000 in
theorem gX5_requireWay_X5_requireBetween : GoodIn wsX5_requireWay (va_wsS RX5 180 yX5_requireBetween wsX5_requireBetween) := goodIn_app (goodIn_of _ (by decide +kernel)) ggX5_requireWay_X5_requireBetween
theorem dX5_requireWay_0 : decode cX5_requireWay 0 = .ok (.iload_n 0, 1) := by decide +kernel
theorem dX5_requireWay_1 : decode cX5_requireWay 1 = .ok (.iconst 0, 1) := by decide +kernel
theorem dX5_requireWay_2 : decode cX5_requireWay 2 = .ok (.iconst 1, 1) := by decide +kernel
theorem dX5_requireWay_3 : decode cX5_requireWay 3 = .ok (.invokestatic 180, 3) := by decide +kernel
theorem dX5_requireWay_6 : decode cX5_requireWay 6 = .ok (.return_, 1) := by decide +kernel
theorem dX5_requireBetween_0 : decode cX5_requireBetween 0 = .ok (.iload_n 0, 1) := by decide +kernel
theorem dX5_requireBetween_1 : decode cX5_requireBetween 1 = .ok (.iload_n 1, 1) := by decide +kernel
theorem dX5_requireBetween_2 : decode cX5_requireBetween 2 = .ok (.if_icmp .lt 8, 3) := by decide +kernel
theorem dX5_requireBetween_5 : decode cX5_requireBetween 5 = .ok (.iload_n 0, 1) := by decide +kernel
theorem dX5_requireBetween_6 : decode cX5_requireBetween 6 = .ok (.iload_n 2, 1) := by decide +kernel
theorem dX5_requireBetween_7 : decode cX5_requireBetween 7 = .ok (.if_icmp .le 14, 3) := by decide +kernel
theorem dX5_requireBetween_10 : decode cX5_requireBetween 10 = .ok (.new 70, 3) := by decide +kernel
theorem dX5_requireBetween_13 : decode cX5_requireBetween 13 = .ok (.dup, 1) := by decide +kernel
theorem dX5_requireBetween_14 : decode cX5_requireBetween 14 = .ok (.ldc_w 295, 3) := by decide +kernel
theorem dX5_requireBetween_17 : decode cX5_requireBetween 17 = .ok (.invokespecial 74, 3) := by decide +kernel
theorem dX5_requireBetween_20 : decode cX5_requireBetween 20 = .ok (.athrow, 1) := by decide +kernel
theorem dX5_requireBetween_21 : decode cX5_requireBetween 21 = .ok (.return_, 1) := by decide +kernel
theorem dX5_cell_0 : decode cX5_cell 0 = .ok (.iload_n 1, 1) := by decide +kernel
theorem dX5_cell_1 : decode cX5_cell 1 = .ok (.ifCond .lt 15, 3) := by decide +kernel
theorem dX5_cell_4 : decode cX5_cell 4 = .ok (.iload_n 1, 1) := by decide +kernel
theorem dX5_cell_5 : decode cX5_cell 5 = .ok (.aload_n 0, 1) := by decide +kernel
theorem dX5_cell_6 : decode cX5_cell 6 = .ok (.arraylength, 1) := by decide +kernel
theorem dX5_cell_7 : decode cX5_cell 7 = .ok (.if_icmp .ge 9, 3) := by decide +kernel
theorem dX5_cell_10 : decode cX5_cell 10 = .ok (.aload_n 0, 1) := by decide +kernel
theorem dX5_cell_11 : decode cX5_cell 11 = .ok (.iload_n 1, 1) := by decide +kernel
theorem dX5_cell_12 : decode cX5_cell 12 = .ok (.iaload, 1) := by decide +kernel
theorem dX5_cell_13 : decode cX5_cell 13 = .ok (.goto 4, 3) := by decide +kernel
theorem dX5_cell_16 : decode cX5_cell 16 = .ok (.iconst 0, 1) := by decide +kernel
theorem dX5_cell_17 : decode cX5_cell 17 = .ok (.ireturn, 1) := by decide +kernel
theorem dX5_putCell_0 : decode cX5_putCell 0 = .ok (.iload_n 1, 1) := by decide +kernel
theorem dX5_putCell_1 : decode cX5_putCell 1 = .ok (.ifCond .lt 13, 3) := by decide +kernel
theorem dX5_putCell_4 : decode cX5_putCell 4 = .ok (.iload_n 1, 1) := by decide +kernel
theorem dX5_putCell_5 : decode cX5_putCell 5 = .ok (.aload_n 0, 1) := by decide +kernel
theorem dX5_putCell_6 : decode cX5_putCell 6 = .ok (.arraylength, 1) := by decide +kernel
theorem dX5_putCell_7 : decode cX5_putCell 7 = .ok (.if_icmp .ge 7, 3) := by decide +kernel
theorem dX5_putCell_10 : decode cX5_putCell 10 = .ok (.aload_n 0, 1) := by decide +kernel
theorem dX5_putCell_11 : decode cX5_putCell 11 = .ok (.iload_n 1, 1) := by decide +kernel
theorem dX5_putCell_12 : decode cX5_putCell 12 = .ok (.iload_n 2, 1) := by decide +kernel
theorem dX5_putCell_13 : decode cX5_putCell 13 = .ok (.iastore, 1) := by decide +kernel
theorem dX5_putCell_14 : decode cX5_putCell 14 = .ok (.return_, 1) := by decide +kernel
theorem dX5_copyRow_0 : decode cX5_copyRow 0 = .ok (.aload_n 0, 1) := by decide +kernel
theorem dX5_copyRow_1 : decode cX5_copyRow 1 = .ok (.iconst 0, 1) := by decide +kernel
theorem dX5_copyRow_2 : decode cX5_copyRow 2 = .ok (.aload_n 1, 1) := by decide +kernel
theorem dX5_copyRow_3 : decode cX5_copyRow 3 = .ok (.iconst 0, 1) := by decide +kernel
theorem dX5_copyRow_4 : decode cX5_copyRow 4 = .ok (.aload_n 0, 1) := by decide +kernel
theorem dX5_copyRow_5 : decode cX5_copyRow 5 = .ok (.arraylength, 1) := by decide +kernel
theorem dX5_copyRow_6 : decode cX5_copyRow 6 = .ok (.aload_n 1, 1) := by decide +kernel
theorem dX5_copyRow_7 : decode cX5_copyRow 7 = .ok (.arraylength, 1) := by decide +kernel
theorem dX5_copyRow_8 : decode cX5_copyRow 8 = .ok (.invokestatic 297, 3) := by decide +kernel
theorem dX5_copyRow_11 : decode cX5_copyRow 11 = .ok (.invokestatic 302, 3) := by decide +kernel
theorem dX5_copyRow_14 : decode cX5_copyRow 14 = .ok (.return_, 1) := by decide +kernel
theorem dX5_hasBit_0 : decode cX5_hasBit 0 = .ok (.iload_n 1, 1) := by decide +kernel
theorem dX5_hasBit_1 : decode cX5_hasBit 1 = .ok (.ifCond .lt 21, 3) := by decide +kernel
theorem dX5_hasBit_4 : decode cX5_hasBit 4 = .ok (.iload_n 1, 1) := by decide +kernel
theorem dX5_hasBit_5 : decode cX5_hasBit 5 = .ok (.bipush 24, 2) := by decide +kernel
theorem dX5_hasBit_7 : decode cX5_hasBit 7 = .ok (.if_icmp .ge 15, 3) := by decide +kernel
theorem dX5_hasBit_10 : decode cX5_hasBit 10 = .ok (.iload_n 0, 1) := by decide +kernel
theorem dX5_hasBit_11 : decode cX5_hasBit 11 = .ok (.iload_n 1, 1) := by decide +kernel
theorem dX5_hasBit_12 : decode cX5_hasBit 12 = .ok (.ishr, 1) := by decide +kernel
theorem dX5_hasBit_13 : decode cX5_hasBit 13 = .ok (.iconst 1, 1) := by decide +kernel
theorem dX5_hasBit_14 : decode cX5_hasBit 14 = .ok (.iand, 1) := by decide +kernel
theorem dX5_hasBit_15 : decode cX5_hasBit 15 = .ok (.ifCond .eq 7, 3) := by decide +kernel
theorem dX5_hasBit_18 : decode cX5_hasBit 18 = .ok (.iconst 1, 1) := by decide +kernel
theorem dX5_hasBit_19 : decode cX5_hasBit 19 = .ok (.goto 4, 3) := by decide +kernel
theorem dX5_hasBit_22 : decode cX5_hasBit 22 = .ok (.iconst 0, 1) := by decide +kernel
theorem dX5_hasBit_23 : decode cX5_hasBit 23 = .ok (.ireturn, 1) := by decide +kernel
theorem dX5_root_0 : decode cX5_root 0 = .ok (.iconst 0, 1) := by decide +kernel
theorem dX5_root_1 : decode cX5_root 1 = .ok (.istore_n 2, 1) := by decide +kernel
theorem dX5_root_2 : decode cX5_root 2 = .ok (.sipush 16384, 3) := by decide +kernel
theorem dX5_root_5 : decode cX5_root 5 = .ok (.istore_n 3, 1) := by decide +kernel
theorem dX5_root_6 : decode cX5_root 6 = .ok (.iload_n 3, 1) := by decide +kernel
theorem dX5_root_7 : decode cX5_root 7 = .ok (.ifCond .le 30, 3) := by decide +kernel
theorem dX5_root_10 : decode cX5_root 10 = .ok (.iload_n 2, 1) := by decide +kernel
theorem dX5_root_11 : decode cX5_root 11 = .ok (.iload_n 3, 1) := by decide +kernel
theorem dX5_root_12 : decode cX5_root 12 = .ok (.iadd, 1) := by decide +kernel
theorem dX5_root_13 : decode cX5_root 13 = .ok (.i2l, 1) := by decide +kernel
theorem dX5_root_14 : decode cX5_root 14 = .ok (.lstore 4, 2) := by decide +kernel
theorem dX5_root_16 : decode cX5_root 16 = .ok (.lload 4, 2) := by decide +kernel
theorem dX5_root_18 : decode cX5_root 18 = .ok (.lload 4, 2) := by decide +kernel
theorem dX5_root_20 : decode cX5_root 20 = .ok (.lmul, 1) := by decide +kernel
theorem dX5_root_21 : decode cX5_root 21 = .ok (.lload_n 0, 1) := by decide +kernel
theorem dX5_root_22 : decode cX5_root 22 = .ok (.lcmp, 1) := by decide +kernel
theorem dX5_root_23 : decode cX5_root 23 = .ok (.ifCond .gt 7, 3) := by decide +kernel
theorem dX5_root_26 : decode cX5_root 26 = .ok (.iload_n 2, 1) := by decide +kernel
theorem dX5_root_27 : decode cX5_root 27 = .ok (.iload_n 3, 1) := by decide +kernel
theorem dX5_root_28 : decode cX5_root 28 = .ok (.iadd, 1) := by decide +kernel
theorem dX5_root_29 : decode cX5_root 29 = .ok (.istore_n 2, 1) := by decide +kernel
theorem dX5_root_30 : decode cX5_root 30 = .ok (.iload_n 3, 1) := by decide +kernel
theorem dX5_root_31 : decode cX5_root 31 = .ok (.iconst 1, 1) := by decide +kernel
theorem dX5_root_32 : decode cX5_root 32 = .ok (.ishr, 1) := by decide +kernel
theorem dX5_root_33 : decode cX5_root 33 = .ok (.istore_n 3, 1) := by decide +kernel
theorem dX5_root_34 : decode cX5_root 34 = .ok (.goto (-28), 3) := by decide +kernel
theorem dX5_root_37 : decode cX5_root 37 = .ok (.iload_n 2, 1) := by decide +kernel
theorem dX5_root_38 : decode cX5_root 38 = .ok (.ireturn, 1) := by decide +kernel
