theorem dX3_init_0 : decode cX3_init 0 = .ok (.aload_n 0, 1) := by decide +kernel
theorem dX3_init_1 : decode cX3_init 1 = .ok (.invokespecial 3, 3) := by decide +kernel
theorem dX3_init_4 : decode cX3_init 4 = .ok (.aload_n 0, 1) := by decide +kernel
theorem dX3_init_5 : decode cX3_init 5 = .ok (.bipush 72, 2) := by decide +kernel
theorem dX3_init_7 : decode cX3_init 7 = .ok (.newarray .int, 2) := by decide +kernel
theorem dX3_init_9 : decode cX3_init 9 = .ok (.putfield 11, 3) := by decide +kernel
theorem dX3_init_12 : decode cX3_init 12 = .ok (.return_, 1) := by decide +kernel
theorem dX3_size_0 : decode cX3_size 0 = .ok (.aload_n 0, 1) := by decide +kernel
theorem dX3_size_1 : decode cX3_size 1 = .ok (.getfield 15, 3) := by decide +kernel
theorem dX3_size_4 : decode cX3_size 4 = .ok (.ireturn, 1) := by decide +kernel
theorem dX3_x_0 : decode cX3_x 0 = .ok (.iconst 3, 1) := by decide +kernel
theorem dX3_x_1 : decode cX3_x 1 = .ok (.iload_n 1, 1) := by decide +kernel
theorem dX3_x_2 : decode cX3_x 2 = .ok (.imul, 1) := by decide +kernel
theorem dX3_x_3 : decode cX3_x 3 = .ok (.istore_n 2, 1) := by decide +kernel
theorem dX3_x_4 : decode cX3_x 4 = .ok (.iload_n 2, 1) := by decide +kernel
theorem dX3_x_5 : decode cX3_x 5 = .ok (.ifCond .lt 21, 3) := by decide +kernel
theorem dX3_x_8 : decode cX3_x 8 = .ok (.iload_n 2, 1) := by decide +kernel
theorem dX3_x_9 : decode cX3_x 9 = .ok (.aload_n 0, 1) := by decide +kernel
theorem dX3_x_10 : decode cX3_x 10 = .ok (.getfield 11, 3) := by decide +kernel
theorem dX3_x_13 : decode cX3_x 13 = .ok (.arraylength, 1) := by decide +kernel
theorem dX3_x_14 : decode cX3_x 14 = .ok (.if_icmp .ge 12, 3) := by decide +kernel
theorem dX3_x_17 : decode cX3_x 17 = .ok (.aload_n 0, 1) := by decide +kernel
theorem dX3_x_18 : decode cX3_x 18 = .ok (.getfield 11, 3) := by decide +kernel
theorem dX3_x_21 : decode cX3_x 21 = .ok (.iload_n 2, 1) := by decide +kernel
theorem dX3_x_22 : decode cX3_x 22 = .ok (.iaload, 1) := by decide +kernel
theorem dX3_x_23 : decode cX3_x 23 = .ok (.goto 4, 3) := by decide +kernel
theorem dX3_x_26 : decode cX3_x 26 = .ok (.iconst 0, 1) := by decide +kernel
theorem dX3_x_27 : decode cX3_x 27 = .ok (.ireturn, 1) := by decide +kernel
theorem dX3_y_0 : decode cX3_y 0 = .ok (.iconst 3, 1) := by decide +kernel
theorem dX3_y_1 : decode cX3_y 1 = .ok (.iload_n 1, 1) := by decide +kernel
theorem dX3_y_2 : decode cX3_y 2 = .ok (.imul, 1) := by decide +kernel
theorem dX3_y_3 : decode cX3_y 3 = .ok (.iconst 1, 1) := by decide +kernel
theorem dX3_y_4 : decode cX3_y 4 = .ok (.iadd, 1) := by decide +kernel
theorem dX3_y_5 : decode cX3_y 5 = .ok (.istore_n 2, 1) := by decide +kernel
theorem dX3_y_6 : decode cX3_y 6 = .ok (.iload_n 2, 1) := by decide +kernel
theorem dX3_y_7 : decode cX3_y 7 = .ok (.ifCond .lt 21, 3) := by decide +kernel
theorem dX3_y_10 : decode cX3_y 10 = .ok (.iload_n 2, 1) := by decide +kernel
theorem dX3_y_11 : decode cX3_y 11 = .ok (.aload_n 0, 1) := by decide +kernel
theorem dX3_y_12 : decode cX3_y 12 = .ok (.getfield 11, 3) := by decide +kernel
theorem dX3_y_15 : decode cX3_y 15 = .ok (.arraylength, 1) := by decide +kernel
theorem dX3_y_16 : decode cX3_y 16 = .ok (.if_icmp .ge 12, 3) := by decide +kernel
theorem dX3_y_19 : decode cX3_y 19 = .ok (.aload_n 0, 1) := by decide +kernel
theorem dX3_y_20 : decode cX3_y 20 = .ok (.getfield 11, 3) := by decide +kernel
theorem dX3_y_23 : decode cX3_y 23 = .ok (.iload_n 2, 1) := by decide +kernel
theorem dX3_y_24 : decode cX3_y 24 = .ok (.iaload, 1) := by decide +kernel
theorem dX3_y_25 : decode cX3_y 25 = .ok (.goto 4, 3) := by decide +kernel
theorem dX3_y_28 : decode cX3_y 28 = .ok (.iconst 0, 1) := by decide +kernel
theorem dX3_y_29 : decode cX3_y 29 = .ok (.ireturn, 1) := by decide +kernel
theorem dX3_width_0 : decode cX3_width 0 = .ok (.iconst 3, 1) := by decide +kernel
theorem dX3_width_1 : decode cX3_width 1 = .ok (.iload_n 1, 1) := by decide +kernel
theorem dX3_width_2 : decode cX3_width 2 = .ok (.imul, 1) := by decide +kernel
theorem dX3_width_3 : decode cX3_width 3 = .ok (.iconst 2, 1) := by decide +kernel
theorem dX3_width_4 : decode cX3_width 4 = .ok (.iadd, 1) := by decide +kernel
theorem dX3_width_5 : decode cX3_width 5 = .ok (.istore_n 2, 1) := by decide +kernel
theorem dX3_width_6 : decode cX3_width 6 = .ok (.iload_n 2, 1) := by decide +kernel
theorem dX3_width_7 : decode cX3_width 7 = .ok (.ifCond .lt 21, 3) := by decide +kernel
theorem dX3_width_10 : decode cX3_width 10 = .ok (.iload_n 2, 1) := by decide +kernel
theorem dX3_width_11 : decode cX3_width 11 = .ok (.aload_n 0, 1) := by decide +kernel
theorem dX3_width_12 : decode cX3_width 12 = .ok (.getfield 11, 3) := by decide +kernel
theorem dX3_width_15 : decode cX3_width 15 = .ok (.arraylength, 1) := by decide +kernel
theorem dX3_width_16 : decode cX3_width 16 = .ok (.if_icmp .ge 12, 3) := by decide +kernel
theorem dX3_width_19 : decode cX3_width 19 = .ok (.aload_n 0, 1) := by decide +kernel
theorem dX3_width_20 : decode cX3_width 20 = .ok (.getfield 11, 3) := by decide +kernel
theorem dX3_width_23 : decode cX3_width 23 = .ok (.iload_n 2, 1) := by decide +kernel
theorem dX3_width_24 : decode cX3_width 24 = .ok (.iaload, 1) := by decide +kernel
theorem dX3_width_25 : decode cX3_width 25 = .ok (.goto 4, 3) := by decide +kernel
theorem dX3_width_28 : decode cX3_width 28 = .ok (.iconst 0, 1) := by decide +kernel
theorem dX3_width_29 : decode cX3_width 29 = .ok (.ireturn, 1) := by decide +kernel
theorem dX3_kept_0 : decode cX3_kept 0 = .ok (.aload_n 0, 1) := by decide +kernel
theorem dX3_kept_1 : decode cX3_kept 1 = .ok (.getfield 19, 3) := by decide +kernel
theorem dX3_kept_4 : decode cX3_kept 4 = .ok (.ireturn, 1) := by decide +kernel
set_option maxRecDepth 20000 in
theorem ggX3_isKept_X5_hasBit : GoodIn wsX3_isKept wsX5_hasBit := goodIn_r _ [4] (by decide +kernel) (by decide +kernel)
set_option maxRecDepth 20000 in
theorem gX3_isKept_X5_hasBit_n22 : GoodIn wsX3_isKept (wsX5_hasBit) := ggX3_isKept_X5_hasBit
theorem dX3_isKept_0 : decode cX3_isKept 0 = .ok (.aload_n 0, 1) := by decide +kernel
theorem dX3_isKept_1 : decode cX3_isKept 1 = .ok (.getfield 19, 3) := by decide +kernel
theorem dX3_isKept_4 : decode cX3_isKept 4 = .ok (.iload_n 1, 1) := by decide +kernel
theorem dX3_isKept_5 : decode cX3_isKept 5 = .ok (.invokestatic 22, 3) := by decide +kernel
theorem dX3_isKept_8 : decode cX3_isKept 8 = .ok (.ireturn, 1) := by decide +kernel
set_option maxRecDepth 20000 in
theorem ggX3_keptCount_J6_bitCount_0f7a4 : GoodIn wsX3_keptCount wsJ6_bitCount_0f7a4 := goodIn_r _ [5, 6, 7, 8] (by decide +kernel) (by decide +kernel)
set_option maxRecDepth 20000 in
theorem gX3_keptCount_J6_bitCount_0f7a4 : GoodIn wsX3_keptCount (va_wsS RX3 26 yJ6_bitCount_0f7a4 wsJ6_bitCount_0f7a4) := goodIn_app (goodIn_of _ (by decide +kernel)) ggX3_keptCount_J6_bitCount_0f7a4
theorem dX3_keptCount_0 : decode cX3_keptCount 0 = .ok (.aload_n 0, 1) := by decide +kernel
theorem dX3_keptCount_1 : decode cX3_keptCount 1 = .ok (.getfield 19, 3) := by decide +kernel
theorem dX3_keptCount_4 : decode cX3_keptCount 4 = .ok (.invokestatic 26, 3) := by decide +kernel
theorem dX3_keptCount_7 : decode cX3_keptCount 7 = .ok (.ireturn, 1) := by decide +kernel
theorem dX3_keepAll_0 : decode cX3_keepAll 0 = .ok (.aload_n 0, 1) := by decide +kernel
theorem dX3_keepAll_1 : decode cX3_keepAll 1 = .ok (.iconst 1, 1) := by decide +kernel
theorem dX3_keepAll_2 : decode cX3_keepAll 2 = .ok (.aload_n 0, 1) := by decide +kernel
theorem dX3_keepAll_3 : decode cX3_keepAll 3 = .ok (.getfield 15, 3) := by decide +kernel
theorem dX3_keepAll_6 : decode cX3_keepAll 6 = .ok (.ishl, 1) := by decide +kernel
theorem dX3_keepAll_7 : decode cX3_keepAll 7 = .ok (.iconst 1, 1) := by decide +kernel
theorem dX3_keepAll_8 : decode cX3_keepAll 8 = .ok (.isub, 1) := by decide +kernel
theorem dX3_keepAll_9 : decode cX3_keepAll 9 = .ok (.putfield 19, 3) := by decide +kernel
theorem dX3_keepAll_12 : decode cX3_keepAll 12 = .ok (.return_, 1) := by decide +kernel
theorem dX3_keepOnly_0 : decode cX3_keepOnly 0 = .ok (.aload_n 0, 1) := by decide +kernel
theorem dX3_keepOnly_1 : decode cX3_keepOnly 1 = .ok (.iload_n 1, 1) := by decide +kernel
theorem dX3_keepOnly_2 : decode cX3_keepOnly 2 = .ok (.putfield 19, 3) := by decide +kernel
theorem dX3_keepOnly_5 : decode cX3_keepOnly 5 = .ok (.return_, 1) := by decide +kernel
set_option maxRecDepth 20000 in
theorem ggX3_copyFrom_X5_copyRow : GoodIn wsX3_copyFrom wsX5_copyRow := goodIn_r _ [6, 7, 8, 9, 10, 11, 12, 13, 14] (by decide +kernel) (by decide +kernel)
set_option maxRecDepth 20000 in
theorem gX3_copyFrom_X5_copyRow_n32 : GoodIn wsX3_copyFrom (wsX5_copyRow) := ggX3_copyFrom_X5_copyRow
theorem dX3_copyFrom_0 : decode cX3_copyFrom 0 = .ok (.aload_n 1, 1) := by decide +kernel
theorem dX3_copyFrom_1 : decode cX3_copyFrom 1 = .ok (.getfield 11, 3) := by decide +kernel
theorem dX3_copyFrom_4 : decode cX3_copyFrom 4 = .ok (.aload_n 0, 1) := by decide +kernel
theorem dX3_copyFrom_5 : decode cX3_copyFrom 5 = .ok (.getfield 11, 3) := by decide +kernel
theorem dX3_copyFrom_8 : decode cX3_copyFrom 8 = .ok (.invokestatic 32, 3) := by decide +kernel
theorem dX3_copyFrom_11 : decode cX3_copyFrom 11 = .ok (.aload_n 0, 1) := by decide +kernel
theorem dX3_copyFrom_12 : decode cX3_copyFrom 12 = .ok (.aload_n 1, 1) := by decide +kernel
theorem dX3_copyFrom_13 : decode cX3_copyFrom 13 = .ok (.getfield 15, 3) := by decide +kernel
theorem dX3_copyFrom_16 : decode cX3_copyFrom 16 = .ok (.putfield 15, 3) := by decide +kernel
theorem dX3_copyFrom_19 : decode cX3_copyFrom 19 = .ok (.aload_n 0, 1) := by decide +kernel
theorem dX3_copyFrom_20 : decode cX3_copyFrom 20 = .ok (.aload_n 1, 1) := by decide +kernel
theorem dX3_copyFrom_21 : decode cX3_copyFrom 21 = .ok (.getfield 19, 3) := by decide +kernel
theorem dX3_copyFrom_24 : decode cX3_copyFrom 24 = .ok (.putfield 19, 3) := by decide +kernel
theorem dX3_copyFrom_27 : decode cX3_copyFrom 27 = .ok (.return_, 1) := by decide +kernel
theorem dX3_removeAll_0 : decode cX3_removeAll 0 = .ok (.aload_n 0, 1) := by decide +kernel
theorem dX3_removeAll_1 : decode cX3_removeAll 1 = .ok (.iconst 0, 1) := by decide +kernel
theorem dX3_removeAll_2 : decode cX3_removeAll 2 = .ok (.putfield 15, 3) := by decide +kernel
theorem dX3_removeAll_5 : decode cX3_removeAll 5 = .ok (.aload_n 0, 1) := by decide +kernel
theorem dX3_removeAll_6 : decode cX3_removeAll 6 = .ok (.iconst 0, 1) := by decide +kernel
theorem dX3_removeAll_7 : decode cX3_removeAll 7 = .ok (.putfield 19, 3) := by decide +kernel
theorem dX3_removeAll_10 : decode cX3_removeAll 10 = .ok (.return_, 1) := by decide +kernel
theorem dX3_putPoint_0 : decode cX3_putPoint 0 = .ok (.iconst 3, 1) := by decide +kernel
theorem dX3_putPoint_1 : decode cX3_putPoint 1 = .ok (.iload_n 1, 1) := by decide +kernel
theorem dX3_putPoint_2 : decode cX3_putPoint 2 = .ok (.imul, 1) := by decide +kernel
theorem dX3_putPoint_3 : decode cX3_putPoint 3 = .ok (.istore 5, 2) := by decide +kernel
theorem dX3_putPoint_5 : decode cX3_putPoint 5 = .ok (.iload 5, 2) := by decide +kernel
theorem dX3_putPoint_7 : decode cX3_putPoint 7 = .ok (.ifCond .lt 44, 3) := by decide +kernel
theorem dX3_putPoint_10 : decode cX3_putPoint 10 = .ok (.iload 5, 2) := by decide +kernel
theorem dX3_putPoint_12 : decode cX3_putPoint 12 = .ok (.aload_n 0, 1) := by decide +kernel
theorem dX3_putPoint_13 : decode cX3_putPoint 13 = .ok (.getfield 11, 3) := by decide +kernel
theorem dX3_putPoint_16 : decode cX3_putPoint 16 = .ok (.arraylength, 1) := by decide +kernel
theorem dX3_putPoint_17 : decode cX3_putPoint 17 = .ok (.iconst 2, 1) := by decide +kernel
theorem dX3_putPoint_18 : decode cX3_putPoint 18 = .ok (.isub, 1) := by decide +kernel
theorem dX3_putPoint_19 : decode cX3_putPoint 19 = .ok (.if_icmp .ge 32, 3) := by decide +kernel
theorem dX3_putPoint_22 : decode cX3_putPoint 22 = .ok (.aload_n 0, 1) := by decide +kernel
theorem dX3_putPoint_23 : decode cX3_putPoint 23 = .ok (.getfield 11, 3) := by decide +kernel
theorem dX3_putPoint_26 : decode cX3_putPoint 26 = .ok (.iload 5, 2) := by decide +kernel
theorem dX3_putPoint_28 : decode cX3_putPoint 28 = .ok (.iload_n 2, 1) := by decide +kernel
theorem dX3_putPoint_29 : decode cX3_putPoint 29 = .ok (.iastore, 1) := by decide +kernel
theorem dX3_putPoint_30 : decode cX3_putPoint 30 = .ok (.aload_n 0, 1) := by decide +kernel
theorem dX3_putPoint_31 : decode cX3_putPoint 31 = .ok (.getfield 11, 3) := by decide +kernel
theorem dX3_putPoint_34 : decode cX3_putPoint 34 = .ok (.iload 5, 2) := by decide +kernel
theorem dX3_putPoint_36 : decode cX3_putPoint 36 = .ok (.iconst 1, 1) := by decide +kernel
theorem dX3_putPoint_37 : decode cX3_putPoint 37 = .ok (.iadd, 1) := by decide +kernel
theorem dX3_putPoint_38 : decode cX3_putPoint 38 = .ok (.iload_n 3, 1) := by decide +kernel
theorem dX3_putPoint_39 : decode cX3_putPoint 39 = .ok (.iastore, 1) := by decide +kernel
theorem dX3_putPoint_40 : decode cX3_putPoint 40 = .ok (.aload_n 0, 1) := by decide +kernel
theorem dX3_putPoint_41 : decode cX3_putPoint 41 = .ok (.getfield 11, 3) := by decide +kernel
theorem dX3_putPoint_44 : decode cX3_putPoint 44 = .ok (.iload 5, 2) := by decide +kernel
theorem dX3_putPoint_46 : decode cX3_putPoint 46 = .ok (.iconst 2, 1) := by decide +kernel
theorem dX3_putPoint_47 : decode cX3_putPoint 47 = .ok (.iadd, 1) := by decide +kernel
theorem dX3_putPoint_48 : decode cX3_putPoint 48 = .ok (.iload 4, 2) := by decide +kernel
theorem dX3_putPoint_50 : decode cX3_putPoint 50 = .ok (.iastore, 1) := by decide +kernel
theorem dX3_putPoint_51 : decode cX3_putPoint 51 = .ok (.return_, 1) := by decide +kernel
set_option maxRecDepth 20000 in
theorem ggX3_addPoint_X3_putPoint : GoodIn wsX3_addPoint wsX3_putPoint := goodIn_r _ [6, 7, 13, 14, 15] (by decide +kernel) (by decide +kernel)
set_option maxRecDepth 20000 in
theorem gX3_addPoint_X3_putPoint : GoodIn wsX3_addPoint (wsV RX3 36 RX3 yX3_putPoint wsX3_putPoint) := goodIn_app (goodIn_of _ (by decide +kernel)) ggX3_addPoint_X3_putPoint
set_option maxRecDepth 20000 in
theorem ggX3_addPoint_X3_keepAll : GoodIn wsX3_addPoint wsX3_keepAll := goodIn_r _ [11, 1, 12, 13, 14, 15] (by decide +kernel) (by decide +kernel)
set_option maxRecDepth 20000 in
theorem gX3_addPoint_X3_keepAll : GoodIn wsX3_addPoint (wsV RX3 40 RX3 yX3_keepAll wsX3_keepAll) := goodIn_app (goodIn_of _ (by decide +kernel)) ggX3_addPoint_X3_keepAll
theorem dX3_addPoint_0 : decode cX3_addPoint 0 = .ok (.aload_n 0, 1) := by decide +kernel
theorem dX3_addPoint_1 : decode cX3_addPoint 1 = .ok (.getfield 15, 3) := by decide +kernel
theorem dX3_addPoint_4 : decode cX3_addPoint 4 = .ok (.bipush 24, 2) := by decide +kernel
theorem dX3_addPoint_6 : decode cX3_addPoint 6 = .ok (.if_icmp .ge 28, 3) := by decide +kernel
theorem dX3_addPoint_9 : decode cX3_addPoint 9 = .ok (.aload_n 0, 1) := by decide +kernel
theorem dX3_addPoint_10 : decode cX3_addPoint 10 = .ok (.aload_n 0, 1) := by decide +kernel
theorem dX3_addPoint_11 : decode cX3_addPoint 11 = .ok (.getfield 15, 3) := by decide +kernel
theorem dX3_addPoint_14 : decode cX3_addPoint 14 = .ok (.iload_n 1, 1) := by decide +kernel
theorem dX3_addPoint_15 : decode cX3_addPoint 15 = .ok (.iload_n 2, 1) := by decide +kernel
theorem dX3_addPoint_16 : decode cX3_addPoint 16 = .ok (.iload_n 3, 1) := by decide +kernel
theorem dX3_addPoint_17 : decode cX3_addPoint 17 = .ok (.invokevirtual 36, 3) := by decide +kernel
theorem dX3_addPoint_20 : decode cX3_addPoint 20 = .ok (.aload_n 0, 1) := by decide +kernel
theorem dX3_addPoint_21 : decode cX3_addPoint 21 = .ok (.dup, 1) := by decide +kernel
theorem dX3_addPoint_22 : decode cX3_addPoint 22 = .ok (.getfield 15, 3) := by decide +kernel
theorem dX3_addPoint_25 : decode cX3_addPoint 25 = .ok (.iconst 1, 1) := by decide +kernel
theorem dX3_addPoint_26 : decode cX3_addPoint 26 = .ok (.iadd, 1) := by decide +kernel
theorem dX3_addPoint_27 : decode cX3_addPoint 27 = .ok (.putfield 15, 3) := by decide +kernel
theorem dX3_addPoint_30 : decode cX3_addPoint 30 = .ok (.aload_n 0, 1) := by decide +kernel
theorem dX3_addPoint_31 : decode cX3_addPoint 31 = .ok (.invokevirtual 40, 3) := by decide +kernel
theorem dX3_addPoint_34 : decode cX3_addPoint 34 = .ok (.return_, 1) := by decide +kernel
set_option maxRecDepth 20000 in
theorem ggX3_insertPoint_X3_x : GoodIn wsX3_insertPoint wsX3_x := goodIn_r _ [6, 7, 25, 26, 27] (by decide +kernel) (by decide +kernel)
set_option maxRecDepth 20000 in
theorem gX3_insertPoint_X3_x : GoodIn wsX3_insertPoint (wsV RX3 43 RX3 yX3_x wsX3_x) := goodIn_app (goodIn_of _ (by decide +kernel)) ggX3_insertPoint_X3_x
set_option maxRecDepth 20000 in
theorem ggX3_insertPoint_X3_y : GoodIn wsX3_insertPoint wsX3_y := goodIn_r _ [11, 7, 25, 26, 27] (by decide +kernel) (by decide +kernel)
set_option maxRecDepth 20000 in
theorem gX3_insertPoint_X3_y : GoodIn wsX3_insertPoint (wsV RX3 46 RX3 yX3_y wsX3_y) := goodIn_app (goodIn_of _ (by decide +kernel)) ggX3_insertPoint_X3_y
set_option maxRecDepth 20000 in
theorem ggX3_insertPoint_X3_width : GoodIn wsX3_insertPoint wsX3_width := goodIn_r _ [15, 7, 25, 26, 27] (by decide +kernel) (by decide +kernel)
set_option maxRecDepth 20000 in
theorem gX3_insertPoint_X3_width : GoodIn wsX3_insertPoint (wsV RX3 49 RX3 yX3_width wsX3_width) := goodIn_app (goodIn_of _ (by decide +kernel)) ggX3_insertPoint_X3_width
set_option maxRecDepth 20000 in
theorem ggX3_insertPoint_X3_putPoint : GoodIn wsX3_insertPoint wsX3_putPoint := goodIn_r _ [19, 7, 25, 26, 27] (by decide +kernel) (by decide +kernel)
set_option maxRecDepth 20000 in
theorem gX3_insertPoint_X3_putPoint : GoodIn wsX3_insertPoint (wsV RX3 36 RX3 yX3_putPoint wsX3_putPoint) := goodIn_app (goodIn_of _ (by decide +kernel)) ggX3_insertPoint_X3_putPoint
set_option maxRecDepth 20000 in
theorem ggX3_insertPoint_X3_keepAll : GoodIn wsX3_insertPoint wsX3_keepAll := goodIn_r _ [23, 1, 24, 25, 26, 27] (by decide +kernel) (by decide +kernel)
set_option maxRecDepth 20000 in
theorem gX3_insertPoint_X3_keepAll : GoodIn wsX3_insertPoint (wsV RX3 40 RX3 yX3_keepAll wsX3_keepAll) := goodIn_app (goodIn_of _ (by decide +kernel)) ggX3_insertPoint_X3_keepAll
theorem dX3_insertPoint_0 : decode cX3_insertPoint 0 = .ok (.aload_n 0, 1) := by decide +kernel
theorem dX3_insertPoint_1 : decode cX3_insertPoint 1 = .ok (.getfield 15, 3) := by decide +kernel
theorem dX3_insertPoint_4 : decode cX3_insertPoint 4 = .ok (.bipush 24, 2) := by decide +kernel
theorem dX3_insertPoint_6 : decode cX3_insertPoint 6 = .ok (.if_icmp .lt 4, 3) := by decide +kernel
theorem dX3_insertPoint_9 : decode cX3_insertPoint 9 = .ok (.return_, 1) := by decide +kernel
theorem dX3_insertPoint_10 : decode cX3_insertPoint 10 = .ok (.aload_n 0, 1) := by decide +kernel
theorem dX3_insertPoint_11 : decode cX3_insertPoint 11 = .ok (.getfield 15, 3) := by decide +kernel
theorem dX3_insertPoint_14 : decode cX3_insertPoint 14 = .ok (.istore 5, 2) := by decide +kernel
theorem dX3_insertPoint_16 : decode cX3_insertPoint 16 = .ok (.iload 5, 2) := by decide +kernel
theorem dX3_insertPoint_18 : decode cX3_insertPoint 18 = .ok (.iload_n 1, 1) := by decide +kernel
theorem dX3_insertPoint_19 : decode cX3_insertPoint 19 = .ok (.if_icmp .le 39, 3) := by decide +kernel
theorem dX3_insertPoint_22 : decode cX3_insertPoint 22 = .ok (.aload_n 0, 1) := by decide +kernel
theorem dX3_insertPoint_23 : decode cX3_insertPoint 23 = .ok (.iload 5, 2) := by decide +kernel
theorem dX3_insertPoint_25 : decode cX3_insertPoint 25 = .ok (.aload_n 0, 1) := by decide +kernel
theorem dX3_insertPoint_26 : decode cX3_insertPoint 26 = .ok (.iload 5, 2) := by decide +kernel
theorem dX3_insertPoint_28 : decode cX3_insertPoint 28 = .ok (.iconst 1, 1) := by decide +kernel
theorem dX3_insertPoint_29 : decode cX3_insertPoint 29 = .ok (.isub, 1) := by decide +kernel
theorem dX3_insertPoint_30 : decode cX3_insertPoint 30 = .ok (.invokevirtual 43, 3) := by decide +kernel
theorem dX3_insertPoint_33 : decode cX3_insertPoint 33 = .ok (.aload_n 0, 1) := by decide +kernel
theorem dX3_insertPoint_34 : decode cX3_insertPoint 34 = .ok (.iload 5, 2) := by decide +kernel
theorem dX3_insertPoint_36 : decode cX3_insertPoint 36 = .ok (.iconst 1, 1) := by decide +kernel
theorem dX3_insertPoint_37 : decode cX3_insertPoint 37 = .ok (.isub, 1) := by decide +kernel
theorem dX3_insertPoint_38 : decode cX3_insertPoint 38 = .ok (.invokevirtual 46, 3) := by decide +kernel
theorem dX3_insertPoint_41 : decode cX3_insertPoint 41 = .ok (.aload_n 0, 1) := by decide +kernel
theorem dX3_insertPoint_42 : decode cX3_insertPoint 42 = .ok (.iload 5, 2) := by decide +kernel
theorem dX3_insertPoint_44 : decode cX3_insertPoint 44 = .ok (.iconst 1, 1) := by decide +kernel
theorem dX3_insertPoint_45 : decode cX3_insertPoint 45 = .ok (.isub, 1) := by decide +kernel
theorem dX3_insertPoint_46 : decode cX3_insertPoint 46 = .ok (.invokevirtual 49, 3) := by decide +kernel
theorem dX3_insertPoint_49 : decode cX3_insertPoint 49 = .ok (.invokevirtual 36, 3) := by decide +kernel
theorem dX3_insertPoint_52 : decode cX3_insertPoint 52 = .ok (.iinc 5 (-1), 3) := by decide +kernel
theorem dX3_insertPoint_55 : decode cX3_insertPoint 55 = .ok (.goto (-39), 3) := by decide +kernel
theorem dX3_insertPoint_58 : decode cX3_insertPoint 58 = .ok (.aload_n 0, 1) := by decide +kernel
theorem dX3_insertPoint_59 : decode cX3_insertPoint 59 = .ok (.iload_n 1, 1) := by decide +kernel
theorem dX3_insertPoint_60 : decode cX3_insertPoint 60 = .ok (.iload_n 2, 1) := by decide +kernel
theorem dX3_insertPoint_61 : decode cX3_insertPoint 61 = .ok (.iload_n 3, 1) := by decide +kernel
theorem dX3_insertPoint_62 : decode cX3_insertPoint 62 = .ok (.iload 4, 2) := by decide +kernel
theorem dX3_insertPoint_64 : decode cX3_insertPoint 64 = .ok (.invokevirtual 36, 3) := by decide +kernel
theorem dX3_insertPoint_67 : decode cX3_insertPoint 67 = .ok (.aload_n 0, 1) := by decide +kernel
theorem dX3_insertPoint_68 : decode cX3_insertPoint 68 = .ok (.dup, 1) := by decide +kernel
theorem dX3_insertPoint_69 : decode cX3_insertPoint 69 = .ok (.getfield 15, 3) := by decide +kernel
theorem dX3_insertPoint_72 : decode cX3_insertPoint 72 = .ok (.iconst 1, 1) := by decide +kernel
theorem dX3_insertPoint_73 : decode cX3_insertPoint 73 = .ok (.iadd, 1) := by decide +kernel
theorem dX3_insertPoint_74 : decode cX3_insertPoint 74 = .ok (.putfield 15, 3) := by decide +kernel
theorem dX3_insertPoint_77 : decode cX3_insertPoint 77 = .ok (.aload_n 0, 1) := by decide +kernel
theorem dX3_insertPoint_78 : decode cX3_insertPoint 78 = .ok (.invokevirtual 40, 3) := by decide +kernel
theorem dX3_insertPoint_81 : decode cX3_insertPoint 81 = .ok (.return_, 1) := by decide +kernel
set_option maxRecDepth 20000 in
theorem ggX3_removePoint_X3_x : GoodIn wsX3_removePoint wsX3_x := goodIn_r _ [6, 7, 25, 26, 27] (by decide +kernel) (by decide +kernel)
set_option maxRecDepth 20000 in
theorem gX3_removePoint_X3_x : GoodIn wsX3_removePoint (wsV RX3 43 RX3 yX3_x wsX3_x) := goodIn_app (goodIn_of _ (by decide +kernel)) ggX3_removePoint_X3_x
set_option maxRecDepth 20000 in
theorem ggX3_removePoint_X3_y : GoodIn wsX3_removePoint wsX3_y := goodIn_r _ [11, 7, 25, 26, 27] (by decide +kernel) (by decide +kernel)
set_option maxRecDepth 20000 in
theorem gX3_removePoint_X3_y : GoodIn wsX3_removePoint (wsV RX3 46 RX3 yX3_y wsX3_y) := goodIn_app (goodIn_of _ (by decide +kernel)) ggX3_removePoint_X3_y
set_option maxRecDepth 20000 in
theorem ggX3_removePoint_X3_width : GoodIn wsX3_removePoint wsX3_width := goodIn_r _ [15, 7, 25, 26, 27] (by decide +kernel) (by decide +kernel)
set_option maxRecDepth 20000 in
theorem gX3_removePoint_X3_width : GoodIn wsX3_removePoint (wsV RX3 49 RX3 yX3_width wsX3_width) := goodIn_app (goodIn_of _ (by decide +kernel)) ggX3_removePoint_X3_width
set_option maxRecDepth 20000 in
theorem ggX3_removePoint_X3_putPoint : GoodIn wsX3_removePoint wsX3_putPoint := goodIn_r _ [19, 7, 25, 26, 27] (by decide +kernel) (by decide +kernel)
set_option maxRecDepth 20000 in
theorem gX3_removePoint_X3_putPoint : GoodIn wsX3_removePoint (wsV RX3 36 RX3 yX3_putPoint wsX3_putPoint) := goodIn_app (goodIn_of _ (by decide +kernel)) ggX3_removePoint_X3_putPoint
set_option maxRecDepth 20000 in
theorem ggX3_removePoint_X3_keepAll : GoodIn wsX3_removePoint wsX3_keepAll := goodIn_r _ [23, 1, 24, 25, 26, 27] (by decide +kernel) (by decide +kernel)
set_option maxRecDepth 20000 in
theorem gX3_removePoint_X3_keepAll : GoodIn wsX3_removePoint (wsV RX3 40 RX3 yX3_keepAll wsX3_keepAll) := goodIn_app (goodIn_of _ (by decide +kernel)) ggX3_removePoint_X3_keepAll
theorem dX3_removePoint_0 : decode cX3_removePoint 0 = .ok (.iload_n 1, 1) := by decide +kernel
theorem dX3_removePoint_1 : decode cX3_removePoint 1 = .ok (.istore_n 2, 1) := by decide +kernel
theorem dX3_removePoint_2 : decode cX3_removePoint 2 = .ok (.iload_n 2, 1) := by decide +kernel
theorem dX3_removePoint_3 : decode cX3_removePoint 3 = .ok (.aload_n 0, 1) := by decide +kernel
theorem dX3_removePoint_4 : decode cX3_removePoint 4 = .ok (.getfield 15, 3) := by decide +kernel
theorem dX3_removePoint_7 : decode cX3_removePoint 7 = .ok (.iconst 1, 1) := by decide +kernel
theorem dX3_removePoint_8 : decode cX3_removePoint 8 = .ok (.isub, 1) := by decide +kernel
theorem dX3_removePoint_9 : decode cX3_removePoint 9 = .ok (.if_icmp .ge 35, 3) := by decide +kernel
theorem dX3_removePoint_12 : decode cX3_removePoint 12 = .ok (.aload_n 0, 1) := by decide +kernel
theorem dX3_removePoint_13 : decode cX3_removePoint 13 = .ok (.iload_n 2, 1) := by decide +kernel
theorem dX3_removePoint_14 : decode cX3_removePoint 14 = .ok (.aload_n 0, 1) := by decide +kernel
theorem dX3_removePoint_15 : decode cX3_removePoint 15 = .ok (.iload_n 2, 1) := by decide +kernel
theorem dX3_removePoint_16 : decode cX3_removePoint 16 = .ok (.iconst 1, 1) := by decide +kernel
theorem dX3_removePoint_17 : decode cX3_removePoint 17 = .ok (.iadd, 1) := by decide +kernel
theorem dX3_removePoint_18 : decode cX3_removePoint 18 = .ok (.invokevirtual 43, 3) := by decide +kernel
theorem dX3_removePoint_21 : decode cX3_removePoint 21 = .ok (.aload_n 0, 1) := by decide +kernel
theorem dX3_removePoint_22 : decode cX3_removePoint 22 = .ok (.iload_n 2, 1) := by decide +kernel
theorem dX3_removePoint_23 : decode cX3_removePoint 23 = .ok (.iconst 1, 1) := by decide +kernel
theorem dX3_removePoint_24 : decode cX3_removePoint 24 = .ok (.iadd, 1) := by decide +kernel
theorem dX3_removePoint_25 : decode cX3_removePoint 25 = .ok (.invokevirtual 46, 3) := by decide +kernel
theorem dX3_removePoint_28 : decode cX3_removePoint 28 = .ok (.aload_n 0, 1) := by decide +kernel
theorem dX3_removePoint_29 : decode cX3_removePoint 29 = .ok (.iload_n 2, 1) := by decide +kernel
theorem dX3_removePoint_30 : decode cX3_removePoint 30 = .ok (.iconst 1, 1) := by decide +kernel
theorem dX3_removePoint_31 : decode cX3_removePoint 31 = .ok (.iadd, 1) := by decide +kernel
theorem dX3_removePoint_32 : decode cX3_removePoint 32 = .ok (.invokevirtual 49, 3) := by decide +kernel
theorem dX3_removePoint_35 : decode cX3_removePoint 35 = .ok (.invokevirtual 36, 3) := by decide +kernel
theorem dX3_removePoint_38 : decode cX3_removePoint 38 = .ok (.iinc 2 1, 3) := by decide +kernel
theorem dX3_removePoint_41 : decode cX3_removePoint 41 = .ok (.goto (-39), 3) := by decide +kernel
theorem dX3_removePoint_44 : decode cX3_removePoint 44 = .ok (.aload_n 0, 1) := by decide +kernel
theorem dX3_removePoint_45 : decode cX3_removePoint 45 = .ok (.dup, 1) := by decide +kernel
theorem dX3_removePoint_46 : decode cX3_removePoint 46 = .ok (.getfield 15, 3) := by decide +kernel
theorem dX3_removePoint_49 : decode cX3_removePoint 49 = .ok (.iconst 1, 1) := by decide +kernel
theorem dX3_removePoint_50 : decode cX3_removePoint 50 = .ok (.isub, 1) := by decide +kernel
theorem dX3_removePoint_51 : decode cX3_removePoint 51 = .ok (.putfield 15, 3) := by decide +kernel
theorem dX3_removePoint_54 : decode cX3_removePoint 54 = .ok (.aload_n 0, 1) := by decide +kernel
theorem dX3_removePoint_55 : decode cX3_removePoint 55 = .ok (.invokevirtual 40, 3) := by decide +kernel
theorem dX3_removePoint_58 : decode cX3_removePoint 58 = .ok (.return_, 1) := by decide +kernel
set_option maxRecDepth 20000 in
theorem ggX3_removeUnkept_X3_isKept : GoodIn wsX3_removeUnkept wsX3_isKept := goodIn_r _ [6, 7, 8, 9, 10, 32, 33, 34] (by decide +kernel) (by decide +kernel)
set_option maxRecDepth 20000 in
theorem gX3_removeUnkept_X3_isKept : GoodIn wsX3_removeUnkept (wsV RX3 52 RX3 yX3_isKept wsX3_isKept) := goodIn_app (goodIn_of _ (by decide +kernel)) ggX3_removeUnkept_X3_isKept
set_option maxRecDepth 20000 in
theorem ggX3_removeUnkept_X3_x : GoodIn wsX3_removeUnkept wsX3_x := goodIn_r _ [14, 15, 32, 33, 34] (by decide +kernel) (by decide +kernel)
set_option maxRecDepth 20000 in
theorem gX3_removeUnkept_X3_x : GoodIn wsX3_removeUnkept (wsV RX3 43 RX3 yX3_x wsX3_x) := goodIn_app (goodIn_of _ (by decide +kernel)) ggX3_removeUnkept_X3_x
set_option maxRecDepth 20000 in
theorem ggX3_removeUnkept_X3_y : GoodIn wsX3_removeUnkept wsX3_y := goodIn_r _ [19, 15, 32, 33, 34] (by decide +kernel) (by decide +kernel)
set_option maxRecDepth 20000 in
theorem gX3_removeUnkept_X3_y : GoodIn wsX3_removeUnkept (wsV RX3 46 RX3 yX3_y wsX3_y) := goodIn_app (goodIn_of _ (by decide +kernel)) ggX3_removeUnkept_X3_y
set_option maxRecDepth 20000 in
theorem ggX3_removeUnkept_X3_width : GoodIn wsX3_removeUnkept wsX3_width := goodIn_r _ [23, 15, 32, 33, 34] (by decide +kernel) (by decide +kernel)
set_option maxRecDepth 20000 in
theorem gX3_removeUnkept_X3_width : GoodIn wsX3_removeUnkept (wsV RX3 49 RX3 yX3_width wsX3_width) := goodIn_app (goodIn_of _ (by decide +kernel)) ggX3_removeUnkept_X3_width
set_option maxRecDepth 20000 in
theorem ggX3_removeUnkept_X3_putPoint : GoodIn wsX3_removeUnkept wsX3_putPoint := goodIn_r _ [27, 15, 32, 33, 34] (by decide +kernel) (by decide +kernel)
set_option maxRecDepth 20000 in
theorem gX3_removeUnkept_X3_putPoint : GoodIn wsX3_removeUnkept (wsV RX3 36 RX3 yX3_putPoint wsX3_putPoint) := goodIn_app (goodIn_of _ (by decide +kernel)) ggX3_removeUnkept_X3_putPoint
set_option maxRecDepth 20000 in
theorem ggX3_removeUnkept_X3_keepAll : GoodIn wsX3_removeUnkept wsX3_keepAll := goodIn_r _ [31, 1, 7, 32, 33, 34] (by decide +kernel) (by decide +kernel)
set_option maxRecDepth 20000 in
theorem gX3_removeUnkept_X3_keepAll : GoodIn wsX3_removeUnkept (wsV RX3 40 RX3 yX3_keepAll wsX3_keepAll) := goodIn_app (goodIn_of _ (by decide +kernel)) ggX3_removeUnkept_X3_keepAll
theorem dX3_removeUnkept_0 : decode cX3_removeUnkept 0 = .ok (.iconst 0, 1) := by decide +kernel
theorem dX3_removeUnkept_1 : decode cX3_removeUnkept 1 = .ok (.istore_n 1, 1) := by decide +kernel
theorem dX3_removeUnkept_2 : decode cX3_removeUnkept 2 = .ok (.iconst 0, 1) := by decide +kernel
theorem dX3_removeUnkept_3 : decode cX3_removeUnkept 3 = .ok (.istore_n 2, 1) := by decide +kernel
theorem dX3_removeUnkept_4 : decode cX3_removeUnkept 4 = .ok (.iload_n 2, 1) := by decide +kernel
theorem dX3_removeUnkept_5 : decode cX3_removeUnkept 5 = .ok (.aload_n 0, 1) := by decide +kernel
theorem dX3_removeUnkept_6 : decode cX3_removeUnkept 6 = .ok (.getfield 15, 3) := by decide +kernel
theorem dX3_removeUnkept_9 : decode cX3_removeUnkept 9 = .ok (.if_icmp .ge 40, 3) := by decide +kernel
theorem dX3_removeUnkept_12 : decode cX3_removeUnkept 12 = .ok (.aload_n 0, 1) := by decide +kernel
theorem dX3_removeUnkept_13 : decode cX3_removeUnkept 13 = .ok (.iload_n 2, 1) := by decide +kernel
theorem dX3_removeUnkept_14 : decode cX3_removeUnkept 14 = .ok (.invokevirtual 52, 3) := by decide +kernel
theorem dX3_removeUnkept_17 : decode cX3_removeUnkept 17 = .ok (.ifCond .eq 26, 3) := by decide +kernel
theorem dX3_removeUnkept_20 : decode cX3_removeUnkept 20 = .ok (.aload_n 0, 1) := by decide +kernel
theorem dX3_removeUnkept_21 : decode cX3_removeUnkept 21 = .ok (.iload_n 1, 1) := by decide +kernel
theorem dX3_removeUnkept_22 : decode cX3_removeUnkept 22 = .ok (.aload_n 0, 1) := by decide +kernel
theorem dX3_removeUnkept_23 : decode cX3_removeUnkept 23 = .ok (.iload_n 2, 1) := by decide +kernel
theorem dX3_removeUnkept_24 : decode cX3_removeUnkept 24 = .ok (.invokevirtual 43, 3) := by decide +kernel
theorem dX3_removeUnkept_27 : decode cX3_removeUnkept 27 = .ok (.aload_n 0, 1) := by decide +kernel
theorem dX3_removeUnkept_28 : decode cX3_removeUnkept 28 = .ok (.iload_n 2, 1) := by decide +kernel
theorem dX3_removeUnkept_29 : decode cX3_removeUnkept 29 = .ok (.invokevirtual 46, 3) := by decide +kernel
theorem dX3_removeUnkept_32 : decode cX3_removeUnkept 32 = .ok (.aload_n 0, 1) := by decide +kernel
theorem dX3_removeUnkept_33 : decode cX3_removeUnkept 33 = .ok (.iload_n 2, 1) := by decide +kernel
theorem dX3_removeUnkept_34 : decode cX3_removeUnkept 34 = .ok (.invokevirtual 49, 3) := by decide +kernel
theorem dX3_removeUnkept_37 : decode cX3_removeUnkept 37 = .ok (.invokevirtual 36, 3) := by decide +kernel
theorem dX3_removeUnkept_40 : decode cX3_removeUnkept 40 = .ok (.iinc 1 1, 3) := by decide +kernel
theorem dX3_removeUnkept_43 : decode cX3_removeUnkept 43 = .ok (.iinc 2 1, 3) := by decide +kernel
theorem dX3_removeUnkept_46 : decode cX3_removeUnkept 46 = .ok (.goto (-42), 3) := by decide +kernel
theorem dX3_removeUnkept_49 : decode cX3_removeUnkept 49 = .ok (.aload_n 0, 1) := by decide +kernel
theorem dX3_removeUnkept_50 : decode cX3_removeUnkept 50 = .ok (.iload_n 1, 1) := by decide +kernel
theorem dX3_removeUnkept_51 : decode cX3_removeUnkept 51 = .ok (.putfield 15, 3) := by decide +kernel
theorem dX3_removeUnkept_54 : decode cX3_removeUnkept 54 = .ok (.aload_n 0, 1) := by decide +kernel
theorem dX3_removeUnkept_55 : decode cX3_removeUnkept 55 = .ok (.invokevirtual 40, 3) := by decide +kernel
theorem dX3_removeUnkept_58 : decode cX3_removeUnkept 58 = .ok (.return_, 1) := by decide +kernel
set_option maxRecDepth 20000 in
theorem ggX3_keptBefore_X3_isKept : GoodIn wsX3_keptBefore wsX3_isKept := goodIn_r _ [5, 6, 7, 8, 9, 10, 11, 12] (by decide +kernel) (by decide +kernel)
set_option maxRecDepth 20000 in
theorem gX3_keptBefore_X3_isKept : GoodIn wsX3_keptBefore (wsV RX3 52 RX3 yX3_isKept wsX3_isKept) := goodIn_app (goodIn_of _ (by decide +kernel)) ggX3_keptBefore_X3_isKept
theorem dX3_keptBefore_0 : decode cX3_keptBefore 0 = .ok (.iload_n 1, 1) := by decide +kernel
theorem dX3_keptBefore_1 : decode cX3_keptBefore 1 = .ok (.iconst 1, 1) := by decide +kernel
theorem dX3_keptBefore_2 : decode cX3_keptBefore 2 = .ok (.isub, 1) := by decide +kernel
theorem dX3_keptBefore_3 : decode cX3_keptBefore 3 = .ok (.istore_n 2, 1) := by decide +kernel
theorem dX3_keptBefore_4 : decode cX3_keptBefore 4 = .ok (.iload_n 2, 1) := by decide +kernel
theorem dX3_keptBefore_5 : decode cX3_keptBefore 5 = .ok (.ifCond .le 19, 3) := by decide +kernel
theorem dX3_keptBefore_8 : decode cX3_keptBefore 8 = .ok (.aload_n 0, 1) := by decide +kernel
theorem dX3_keptBefore_9 : decode cX3_keptBefore 9 = .ok (.iload_n 2, 1) := by decide +kernel
theorem dX3_keptBefore_10 : decode cX3_keptBefore 10 = .ok (.invokevirtual 52, 3) := by decide +kernel
theorem dX3_keptBefore_13 : decode cX3_keptBefore 13 = .ok (.ifCond .eq 5, 3) := by decide +kernel
theorem dX3_keptBefore_16 : decode cX3_keptBefore 16 = .ok (.iload_n 2, 1) := by decide +kernel
theorem dX3_keptBefore_17 : decode cX3_keptBefore 17 = .ok (.ireturn, 1) := by decide +kernel
theorem dX3_keptBefore_18 : decode cX3_keptBefore 18 = .ok (.iinc 2 (-1), 3) := by decide +kernel
theorem dX3_keptBefore_21 : decode cX3_keptBefore 21 = .ok (.goto (-17), 3) := by decide +kernel
theorem dX3_keptBefore_24 : decode cX3_keptBefore 24 = .ok (.iconst 0, 1) := by decide +kernel
theorem dX3_keptBefore_25 : decode cX3_keptBefore 25 = .ok (.ireturn, 1) := by decide +kernel
set_option maxRecDepth 20000 in
theorem ggX3_keptBehind_X3_isKept : GoodIn wsX3_keptBehind wsX3_isKept := goodIn_r _ [6, 7, 8, 9, 10, 11, 12, 13] (by decide +kernel) (by decide +kernel)
set_option maxRecDepth 20000 in
theorem gX3_keptBehind_X3_isKept : GoodIn wsX3_keptBehind (wsV RX3 52 RX3 yX3_isKept wsX3_isKept) := goodIn_app (goodIn_of _ (by decide +kernel)) ggX3_keptBehind_X3_isKept
theorem dX3_keptBehind_0 : decode cX3_keptBehind 0 = .ok (.iload_n 1, 1) := by decide +kernel
theorem dX3_keptBehind_1 : decode cX3_keptBehind 1 = .ok (.iconst 1, 1) := by decide +kernel
theorem dX3_keptBehind_2 : decode cX3_keptBehind 2 = .ok (.iadd, 1) := by decide +kernel
theorem dX3_keptBehind_3 : decode cX3_keptBehind 3 = .ok (.istore_n 2, 1) := by decide +kernel
theorem dX3_keptBehind_4 : decode cX3_keptBehind 4 = .ok (.iload_n 2, 1) := by decide +kernel
theorem dX3_keptBehind_5 : decode cX3_keptBehind 5 = .ok (.aload_n 0, 1) := by decide +kernel
theorem dX3_keptBehind_6 : decode cX3_keptBehind 6 = .ok (.getfield 15, 3) := by decide +kernel
theorem dX3_keptBehind_9 : decode cX3_keptBehind 9 = .ok (.if_icmp .ge 19, 3) := by decide +kernel
theorem dX3_keptBehind_12 : decode cX3_keptBehind 12 = .ok (.aload_n 0, 1) := by decide +kernel
theorem dX3_keptBehind_13 : decode cX3_keptBehind 13 = .ok (.iload_n 2, 1) := by decide +kernel
theorem dX3_keptBehind_14 : decode cX3_keptBehind 14 = .ok (.invokevirtual 52, 3) := by decide +kernel
theorem dX3_keptBehind_17 : decode cX3_keptBehind 17 = .ok (.ifCond .eq 5, 3) := by decide +kernel
theorem dX3_keptBehind_20 : decode cX3_keptBehind 20 = .ok (.iload_n 2, 1) := by decide +kernel
theorem dX3_keptBehind_21 : decode cX3_keptBehind 21 = .ok (.ireturn, 1) := by decide +kernel
theorem dX3_keptBehind_22 : decode cX3_keptBehind 22 = .ok (.iinc 2 1, 3) := by decide +kernel
theorem dX3_keptBehind_25 : decode cX3_keptBehind 25 = .ok (.goto (-21), 3) := by decide +kernel
theorem dX3_keptBehind_28 : decode cX3_keptBehind 28 = .ok (.aload_n 0, 1) := by decide +kernel
theorem dX3_keptBehind_29 : decode cX3_keptBehind 29 = .ok (.getfield 15, 3) := by decide +kernel
theorem dX3_keptBehind_32 : decode cX3_keptBehind 32 = .ok (.iconst 1, 1) := by decide +kernel
theorem dX3_keptBehind_33 : decode cX3_keptBehind 33 = .ok (.isub, 1) := by decide +kernel
theorem dX3_keptBehind_34 : decode cX3_keptBehind 34 = .ok (.ireturn, 1) := by decide +kernel
set_option maxRecDepth 20000 in
theorem ggX3_square_X3_x : GoodIn wsX3_square wsX3_x := goodIn_r _ [5, 6, 11, 12, 13] (by decide +kernel) (by decide +kernel)
set_option maxRecDepth 20000 in
theorem gX3_square_X3_x : GoodIn wsX3_square (wsV RX3 43 RX3 yX3_x wsX3_x) := goodIn_app (goodIn_of _ (by decide +kernel)) ggX3_square_X3_x
set_option maxRecDepth 20000 in
theorem ggX3_square_X3_y : GoodIn wsX3_square wsX3_y := goodIn_r _ [10, 6, 11, 12, 13] (by decide +kernel) (by decide +kernel)
set_option maxRecDepth 20000 in
theorem gX3_square_X3_y : GoodIn wsX3_square (wsV RX3 46 RX3 yX3_y wsX3_y) := goodIn_app (goodIn_of _ (by decide +kernel)) ggX3_square_X3_y
theorem dX3_square_0 : decode cX3_square 0 = .ok (.aload_n 0, 1) := by decide +kernel
theorem dX3_square_1 : decode cX3_square 1 = .ok (.iload_n 2, 1) := by decide +kernel
theorem dX3_square_2 : decode cX3_square 2 = .ok (.invokevirtual 43, 3) := by decide +kernel
theorem dX3_square_5 : decode cX3_square 5 = .ok (.aload_n 0, 1) := by decide +kernel
theorem dX3_square_6 : decode cX3_square 6 = .ok (.iload_n 1, 1) := by decide +kernel
theorem dX3_square_7 : decode cX3_square 7 = .ok (.invokevirtual 43, 3) := by decide +kernel
theorem dX3_square_10 : decode cX3_square 10 = .ok (.isub, 1) := by decide +kernel
theorem dX3_square_11 : decode cX3_square 11 = .ok (.i2l, 1) := by decide +kernel
theorem dX3_square_12 : decode cX3_square 12 = .ok (.lstore_n 3, 1) := by decide +kernel
theorem dX3_square_13 : decode cX3_square 13 = .ok (.aload_n 0, 1) := by decide +kernel
theorem dX3_square_14 : decode cX3_square 14 = .ok (.iload_n 2, 1) := by decide +kernel
theorem dX3_square_15 : decode cX3_square 15 = .ok (.invokevirtual 46, 3) := by decide +kernel
theorem dX3_square_18 : decode cX3_square 18 = .ok (.aload_n 0, 1) := by decide +kernel
theorem dX3_square_19 : decode cX3_square 19 = .ok (.iload_n 1, 1) := by decide +kernel
theorem dX3_square_20 : decode cX3_square 20 = .ok (.invokevirtual 46, 3) := by decide +kernel
theorem dX3_square_23 : decode cX3_square 23 = .ok (.isub, 1) := by decide +kernel
theorem dX3_square_24 : decode cX3_square 24 = .ok (.i2l, 1) := by decide +kernel
theorem dX3_square_25 : decode cX3_square 25 = .ok (.lstore 5, 2) := by decide +kernel
theorem dX3_square_27 : decode cX3_square 27 = .ok (.lload_n 3, 1) := by decide +kernel
theorem dX3_square_28 : decode cX3_square 28 = .ok (.lload_n 3, 1) := by decide +kernel
theorem dX3_square_29 : decode cX3_square 29 = .ok (.lmul, 1) := by decide +kernel
theorem dX3_square_30 : decode cX3_square 30 = .ok (.lload 5, 2) := by decide +kernel
theorem dX3_square_32 : decode cX3_square 32 = .ok (.lload 5, 2) := by decide +kernel
theorem dX3_square_34 : decode cX3_square 34 = .ok (.lmul, 1) := by decide +kernel
theorem dX3_square_35 : decode cX3_square 35 = .ok (.ladd, 1) := by decide +kernel
theorem dX3_square_36 : decode cX3_square 36 = .ok (.lreturn, 1) := by decide +kernel
set_option maxRecDepth 20000 in
theorem ggX3_productAt_X3_x : GoodIn wsX3_productAt wsX3_x := goodIn_r _ [5, 6, 11, 12, 13] (by decide +kernel) (by decide +kernel)
set_option maxRecDepth 20000 in
theorem gX3_productAt_X3_x : GoodIn wsX3_productAt (wsV RX3 43 RX3 yX3_x wsX3_x) := goodIn_app (goodIn_of _ (by decide +kernel)) ggX3_productAt_X3_x
set_option maxRecDepth 20000 in
theorem ggX3_productAt_X3_y : GoodIn wsX3_productAt wsX3_y := goodIn_r _ [10, 6, 11, 12, 13] (by decide +kernel) (by decide +kernel)
set_option maxRecDepth 20000 in
theorem gX3_productAt_X3_y : GoodIn wsX3_productAt (wsV RX3 46 RX3 yX3_y wsX3_y) := goodIn_app (goodIn_of _ (by decide +kernel)) ggX3_productAt_X3_y
theorem dX3_productAt_0 : decode cX3_productAt 0 = .ok (.aload_n 0, 1) := by decide +kernel
theorem dX3_productAt_1 : decode cX3_productAt 1 = .ok (.iload_n 2, 1) := by decide +kernel
theorem dX3_productAt_2 : decode cX3_productAt 2 = .ok (.invokevirtual 43, 3) := by decide +kernel
theorem dX3_productAt_5 : decode cX3_productAt 5 = .ok (.aload_n 0, 1) := by decide +kernel
theorem dX3_productAt_6 : decode cX3_productAt 6 = .ok (.iload_n 1, 1) := by decide +kernel
theorem dX3_productAt_7 : decode cX3_productAt 7 = .ok (.invokevirtual 43, 3) := by decide +kernel
theorem dX3_productAt_10 : decode cX3_productAt 10 = .ok (.isub, 1) := by decide +kernel
theorem dX3_productAt_11 : decode cX3_productAt 11 = .ok (.i2l, 1) := by decide +kernel
theorem dX3_productAt_12 : decode cX3_productAt 12 = .ok (.aload_n 0, 1) := by decide +kernel
theorem dX3_productAt_13 : decode cX3_productAt 13 = .ok (.iload_n 3, 1) := by decide +kernel
theorem dX3_productAt_14 : decode cX3_productAt 14 = .ok (.invokevirtual 43, 3) := by decide +kernel
theorem dX3_productAt_17 : decode cX3_productAt 17 = .ok (.aload_n 0, 1) := by decide +kernel
theorem dX3_productAt_18 : decode cX3_productAt 18 = .ok (.iload_n 2, 1) := by decide +kernel
theorem dX3_productAt_19 : decode cX3_productAt 19 = .ok (.invokevirtual 43, 3) := by decide +kernel
theorem dX3_productAt_22 : decode cX3_productAt 22 = .ok (.isub, 1) := by decide +kernel
theorem dX3_productAt_23 : decode cX3_productAt 23 = .ok (.i2l, 1) := by decide +kernel
theorem dX3_productAt_24 : decode cX3_productAt 24 = .ok (.lmul, 1) := by decide +kernel
theorem dX3_productAt_25 : decode cX3_productAt 25 = .ok (.aload_n 0, 1) := by decide +kernel
theorem dX3_productAt_26 : decode cX3_productAt 26 = .ok (.iload_n 2, 1) := by decide +kernel
theorem dX3_productAt_27 : decode cX3_productAt 27 = .ok (.invokevirtual 46, 3) := by decide +kernel
theorem dX3_productAt_30 : decode cX3_productAt 30 = .ok (.aload_n 0, 1) := by decide +kernel
theorem dX3_productAt_31 : decode cX3_productAt 31 = .ok (.iload_n 1, 1) := by decide +kernel
theorem dX3_productAt_32 : decode cX3_productAt 32 = .ok (.invokevirtual 46, 3) := by decide +kernel
theorem dX3_productAt_35 : decode cX3_productAt 35 = .ok (.isub, 1) := by decide +kernel
theorem dX3_productAt_36 : decode cX3_productAt 36 = .ok (.i2l, 1) := by decide +kernel
theorem dX3_productAt_37 : decode cX3_productAt 37 = .ok (.aload_n 0, 1) := by decide +kernel
theorem dX3_productAt_38 : decode cX3_productAt 38 = .ok (.iload_n 3, 1) := by decide +kernel
theorem dX3_productAt_39 : decode cX3_productAt 39 = .ok (.invokevirtual 46, 3) := by decide +kernel
theorem dX3_productAt_42 : decode cX3_productAt 42 = .ok (.aload_n 0, 1) := by decide +kernel
theorem dX3_productAt_43 : decode cX3_productAt 43 = .ok (.iload_n 2, 1) := by decide +kernel
theorem dX3_productAt_44 : decode cX3_productAt 44 = .ok (.invokevirtual 46, 3) := by decide +kernel
theorem dX3_productAt_47 : decode cX3_productAt 47 = .ok (.isub, 1) := by decide +kernel
theorem dX3_productAt_48 : decode cX3_productAt 48 = .ok (.i2l, 1) := by decide +kernel
theorem dX3_productAt_49 : decode cX3_productAt 49 = .ok (.lmul, 1) := by decide +kernel
theorem dX3_productAt_50 : decode cX3_productAt 50 = .ok (.ladd, 1) := by decide +kernel
theorem dX3_productAt_51 : decode cX3_productAt 51 = .ok (.lreturn, 1) := by decide +kernel
set_option maxRecDepth 20000 in
theorem ggX3_sideOf_X3_x : GoodIn wsX3_sideOf wsX3_x := goodIn_r _ [5, 6, 11, 12, 13] (by decide +kernel) (by decide +kernel)
set_option maxRecDepth 20000 in
theorem gX3_sideOf_X3_x : GoodIn wsX3_sideOf (wsV RX3 43 RX3 yX3_x wsX3_x) := goodIn_app (goodIn_of _ (by decide +kernel)) ggX3_sideOf_X3_x
set_option maxRecDepth 20000 in
theorem ggX3_sideOf_X3_y : GoodIn wsX3_sideOf wsX3_y := goodIn_r _ [10, 6, 11, 12, 13] (by decide +kernel) (by decide +kernel)
set_option maxRecDepth 20000 in
theorem gX3_sideOf_X3_y : GoodIn wsX3_sideOf (wsV RX3 46 RX3 yX3_y wsX3_y) := goodIn_app (goodIn_of _ (by decide +kernel)) ggX3_sideOf_X3_y
theorem dX3_sideOf_0 : decode cX3_sideOf 0 = .ok (.aload_n 0, 1) := by decide +kernel
theorem dX3_sideOf_1 : decode cX3_sideOf 1 = .ok (.iload_n 3, 1) := by decide +kernel
theorem dX3_sideOf_2 : decode cX3_sideOf 2 = .ok (.invokevirtual 43, 3) := by decide +kernel
theorem dX3_sideOf_5 : decode cX3_sideOf 5 = .ok (.aload_n 0, 1) := by decide +kernel
theorem dX3_sideOf_6 : decode cX3_sideOf 6 = .ok (.iload_n 2, 1) := by decide +kernel
theorem dX3_sideOf_7 : decode cX3_sideOf 7 = .ok (.invokevirtual 43, 3) := by decide +kernel
theorem dX3_sideOf_10 : decode cX3_sideOf 10 = .ok (.isub, 1) := by decide +kernel
theorem dX3_sideOf_11 : decode cX3_sideOf 11 = .ok (.i2l, 1) := by decide +kernel
theorem dX3_sideOf_12 : decode cX3_sideOf 12 = .ok (.aload_n 0, 1) := by decide +kernel
theorem dX3_sideOf_13 : decode cX3_sideOf 13 = .ok (.iload_n 1, 1) := by decide +kernel
theorem dX3_sideOf_14 : decode cX3_sideOf 14 = .ok (.invokevirtual 46, 3) := by decide +kernel
theorem dX3_sideOf_17 : decode cX3_sideOf 17 = .ok (.aload_n 0, 1) := by decide +kernel
theorem dX3_sideOf_18 : decode cX3_sideOf 18 = .ok (.iload_n 2, 1) := by decide +kernel
theorem dX3_sideOf_19 : decode cX3_sideOf 19 = .ok (.invokevirtual 46, 3) := by decide +kernel
theorem dX3_sideOf_22 : decode cX3_sideOf 22 = .ok (.isub, 1) := by decide +kernel
theorem dX3_sideOf_23 : decode cX3_sideOf 23 = .ok (.i2l, 1) := by decide +kernel
theorem dX3_sideOf_24 : decode cX3_sideOf 24 = .ok (.lmul, 1) := by decide +kernel
theorem dX3_sideOf_25 : decode cX3_sideOf 25 = .ok (.aload_n 0, 1) := by decide +kernel
theorem dX3_sideOf_26 : decode cX3_sideOf 26 = .ok (.iload_n 3, 1) := by decide +kernel
theorem dX3_sideOf_27 : decode cX3_sideOf 27 = .ok (.invokevirtual 46, 3) := by decide +kernel
theorem dX3_sideOf_30 : decode cX3_sideOf 30 = .ok (.aload_n 0, 1) := by decide +kernel
theorem dX3_sideOf_31 : decode cX3_sideOf 31 = .ok (.iload_n 2, 1) := by decide +kernel
theorem dX3_sideOf_32 : decode cX3_sideOf 32 = .ok (.invokevirtual 46, 3) := by decide +kernel
theorem dX3_sideOf_35 : decode cX3_sideOf 35 = .ok (.isub, 1) := by decide +kernel
theorem dX3_sideOf_36 : decode cX3_sideOf 36 = .ok (.i2l, 1) := by decide +kernel
theorem dX3_sideOf_37 : decode cX3_sideOf 37 = .ok (.aload_n 0, 1) := by decide +kernel
theorem dX3_sideOf_38 : decode cX3_sideOf 38 = .ok (.iload_n 1, 1) := by decide +kernel
theorem dX3_sideOf_39 : decode cX3_sideOf 39 = .ok (.invokevirtual 43, 3) := by decide +kernel
theorem dX3_sideOf_42 : decode cX3_sideOf 42 = .ok (.aload_n 0, 1) := by decide +kernel
theorem dX3_sideOf_43 : decode cX3_sideOf 43 = .ok (.iload_n 2, 1) := by decide +kernel
theorem dX3_sideOf_44 : decode cX3_sideOf 44 = .ok (.invokevirtual 43, 3) := by decide +kernel
theorem dX3_sideOf_47 : decode cX3_sideOf 47 = .ok (.isub, 1) := by decide +kernel
theorem dX3_sideOf_48 : decode cX3_sideOf 48 = .ok (.i2l, 1) := by decide +kernel
theorem dX3_sideOf_49 : decode cX3_sideOf 49 = .ok (.lmul, 1) := by decide +kernel
theorem dX3_sideOf_50 : decode cX3_sideOf 50 = .ok (.lsub, 1) := by decide +kernel
theorem dX3_sideOf_51 : decode cX3_sideOf 51 = .ok (.lreturn, 1) := by decide +kernel
set_option maxRecDepth 20000 in
theorem ggX3_spread_X3_x : GoodIn wsX3_spread wsX3_x := goodIn_r _ [9, 10, 15, 16, 17] (by decide +kernel) (by decide +kernel)
set_option maxRecDepth 20000 in
theorem gX3_spread_X3_x : GoodIn wsX3_spread (wsV RX3 43 RX3 yX3_x wsX3_x) := goodIn_app (goodIn_of _ (by decide +kernel)) ggX3_spread_X3_x
set_option maxRecDepth 20000 in
theorem ggX3_spread_X3_y : GoodIn wsX3_spread wsX3_y := goodIn_r _ [14, 10, 15, 16, 17] (by decide +kernel) (by decide +kernel)
set_option maxRecDepth 20000 in
theorem gX3_spread_X3_y : GoodIn wsX3_spread (wsV RX3 46 RX3 yX3_y wsX3_y) := goodIn_app (goodIn_of _ (by decide +kernel)) ggX3_spread_X3_y
theorem dX3_spread_0 : decode cX3_spread 0 = .ok (.aload_n 0, 1) := by decide +kernel
theorem dX3_spread_1 : decode cX3_spread 1 = .ok (.iload_n 1, 1) := by decide +kernel
theorem dX3_spread_2 : decode cX3_spread 2 = .ok (.invokevirtual 43, 3) := by decide +kernel
theorem dX3_spread_5 : decode cX3_spread 5 = .ok (.aload_n 0, 1) := by decide +kernel
theorem dX3_spread_6 : decode cX3_spread 6 = .ok (.iload_n 2, 1) := by decide +kernel
theorem dX3_spread_7 : decode cX3_spread 7 = .ok (.invokevirtual 43, 3) := by decide +kernel
theorem dX3_spread_10 : decode cX3_spread 10 = .ok (.isub, 1) := by decide +kernel
theorem dX3_spread_11 : decode cX3_spread 11 = .ok (.i2l, 1) := by decide +kernel
theorem dX3_spread_12 : decode cX3_spread 12 = .ok (.lstore 4, 2) := by decide +kernel
theorem dX3_spread_14 : decode cX3_spread 14 = .ok (.aload_n 0, 1) := by decide +kernel
theorem dX3_spread_15 : decode cX3_spread 15 = .ok (.iload_n 1, 1) := by decide +kernel
theorem dX3_spread_16 : decode cX3_spread 16 = .ok (.invokevirtual 46, 3) := by decide +kernel
theorem dX3_spread_19 : decode cX3_spread 19 = .ok (.aload_n 0, 1) := by decide +kernel
theorem dX3_spread_20 : decode cX3_spread 20 = .ok (.iload_n 2, 1) := by decide +kernel
theorem dX3_spread_21 : decode cX3_spread 21 = .ok (.invokevirtual 46, 3) := by decide +kernel
theorem dX3_spread_24 : decode cX3_spread 24 = .ok (.isub, 1) := by decide +kernel
theorem dX3_spread_25 : decode cX3_spread 25 = .ok (.i2l, 1) := by decide +kernel
theorem dX3_spread_26 : decode cX3_spread 26 = .ok (.lstore 6, 2) := by decide +kernel
theorem dX3_spread_28 : decode cX3_spread 28 = .ok (.aload_n 0, 1) := by decide +kernel
theorem dX3_spread_29 : decode cX3_spread 29 = .ok (.iload_n 3, 1) := by decide +kernel
theorem dX3_spread_30 : decode cX3_spread 30 = .ok (.invokevirtual 43, 3) := by decide +kernel
theorem dX3_spread_33 : decode cX3_spread 33 = .ok (.aload_n 0, 1) := by decide +kernel
theorem dX3_spread_34 : decode cX3_spread 34 = .ok (.iload_n 2, 1) := by decide +kernel
theorem dX3_spread_35 : decode cX3_spread 35 = .ok (.invokevirtual 43, 3) := by decide +kernel
theorem dX3_spread_38 : decode cX3_spread 38 = .ok (.isub, 1) := by decide +kernel
theorem dX3_spread_39 : decode cX3_spread 39 = .ok (.i2l, 1) := by decide +kernel
theorem dX3_spread_40 : decode cX3_spread 40 = .ok (.lstore 8, 2) := by decide +kernel
theorem dX3_spread_42 : decode cX3_spread 42 = .ok (.aload_n 0, 1) := by decide +kernel
theorem dX3_spread_43 : decode cX3_spread 43 = .ok (.iload_n 3, 1) := by decide +kernel
theorem dX3_spread_44 : decode cX3_spread 44 = .ok (.invokevirtual 46, 3) := by decide +kernel
theorem dX3_spread_47 : decode cX3_spread 47 = .ok (.aload_n 0, 1) := by decide +kernel
theorem dX3_spread_48 : decode cX3_spread 48 = .ok (.iload_n 2, 1) := by decide +kernel
theorem dX3_spread_49 : decode cX3_spread 49 = .ok (.invokevirtual 46, 3) := by decide +kernel
theorem dX3_spread_52 : decode cX3_spread 52 = .ok (.isub, 1) := by decide +kernel
theorem dX3_spread_53 : decode cX3_spread 53 = .ok (.i2l, 1) := by decide +kernel
theorem dX3_spread_54 : decode cX3_spread 54 = .ok (.lstore 10, 2) := by decide +kernel
theorem dX3_spread_56 : decode cX3_spread 56 = .ok (.lload 4, 2) := by decide +kernel
theorem dX3_spread_58 : decode cX3_spread 58 = .ok (.lload 8, 2) := by decide +kernel
theorem dX3_spread_60 : decode cX3_spread 60 = .ok (.lmul, 1) := by decide +kernel
theorem dX3_spread_61 : decode cX3_spread 61 = .ok (.lload 6, 2) := by decide +kernel
theorem dX3_spread_63 : decode cX3_spread 63 = .ok (.lload 10, 2) := by decide +kernel
theorem dX3_spread_65 : decode cX3_spread 65 = .ok (.lmul, 1) := by decide +kernel
theorem dX3_spread_66 : decode cX3_spread 66 = .ok (.ladd, 1) := by decide +kernel
theorem dX3_spread_67 : decode cX3_spread 67 = .ok (.lstore 12, 2) := by decide +kernel
theorem dX3_spread_69 : decode cX3_spread 69 = .ok (.lload 8, 2) := by decide +kernel
theorem dX3_spread_71 : decode cX3_spread 71 = .ok (.lload 8, 2) := by decide +kernel
theorem dX3_spread_73 : decode cX3_spread 73 = .ok (.lmul, 1) := by decide +kernel
theorem dX3_spread_74 : decode cX3_spread 74 = .ok (.lload 10, 2) := by decide +kernel
theorem dX3_spread_76 : decode cX3_spread 76 = .ok (.lload 10, 2) := by decide +kernel
theorem dX3_spread_78 : decode cX3_spread 78 = .ok (.lmul, 1) := by decide +kernel
theorem dX3_spread_79 : decode cX3_spread 79 = .ok (.ladd, 1) := by decide +kernel
theorem dX3_spread_80 : decode cX3_spread 80 = .ok (.lstore 14, 2) := by decide +kernel
theorem dX3_spread_82 : decode cX3_spread 82 = .ok (.lload 12, 2) := by decide +kernel
theorem dX3_spread_84 : decode cX3_spread 84 = .ok (.lconst 0, 1) := by decide +kernel
theorem dX3_spread_85 : decode cX3_spread 85 = .ok (.lcmp, 1) := by decide +kernel
theorem dX3_spread_86 : decode cX3_spread 86 = .ok (.ifCond .gt 22, 3) := by decide +kernel
theorem dX3_spread_89 : decode cX3_spread 89 = .ok (.lload 4, 2) := by decide +kernel
theorem dX3_spread_91 : decode cX3_spread 91 = .ok (.lload 4, 2) := by decide +kernel
theorem dX3_spread_93 : decode cX3_spread 93 = .ok (.lmul, 1) := by decide +kernel
theorem dX3_spread_94 : decode cX3_spread 94 = .ok (.lload 6, 2) := by decide +kernel
theorem dX3_spread_96 : decode cX3_spread 96 = .ok (.lload 6, 2) := by decide +kernel
theorem dX3_spread_98 : decode cX3_spread 98 = .ok (.lmul, 1) := by decide +kernel
theorem dX3_spread_99 : decode cX3_spread 99 = .ok (.ladd, 1) := by decide +kernel
theorem dX3_spread_100 : decode cX3_spread 100 = .ok (.lload 14, 2) := by decide +kernel
theorem dX3_spread_102 : decode cX3_spread 102 = .ok (.lconst 1, 1) := by decide +kernel
theorem dX3_spread_103 : decode cX3_spread 103 = .ok (.invokestatic 56, 3) := by decide +kernel
theorem dX3_spread_106 : decode cX3_spread 106 = .ok (.lmul, 1) := by decide +kernel
theorem dX3_spread_107 : decode cX3_spread 107 = .ok (.lreturn, 1) := by decide +kernel
theorem dX3_spread_108 : decode cX3_spread 108 = .ok (.lload 12, 2) := by decide +kernel
theorem dX3_spread_110 : decode cX3_spread 110 = .ok (.lload 14, 2) := by decide +kernel
theorem dX3_spread_112 : decode cX3_spread 112 = .ok (.lcmp, 1) := by decide +kernel
theorem dX3_spread_113 : decode cX3_spread 113 = .ok (.ifCond .lt 30, 3) := by decide +kernel
theorem dX3_spread_116 : decode cX3_spread 116 = .ok (.lload 4, 2) := by decide +kernel
theorem dX3_spread_118 : decode cX3_spread 118 = .ok (.lload 8, 2) := by decide +kernel
theorem dX3_spread_120 : decode cX3_spread 120 = .ok (.lsub, 1) := by decide +kernel
theorem dX3_spread_121 : decode cX3_spread 121 = .ok (.lload 4, 2) := by decide +kernel
theorem dX3_spread_123 : decode cX3_spread 123 = .ok (.lload 8, 2) := by decide +kernel
theorem dX3_spread_125 : decode cX3_spread 125 = .ok (.lsub, 1) := by decide +kernel
theorem dX3_spread_126 : decode cX3_spread 126 = .ok (.lmul, 1) := by decide +kernel
theorem dX3_spread_127 : decode cX3_spread 127 = .ok (.lload 6, 2) := by decide +kernel
theorem dX3_spread_129 : decode cX3_spread 129 = .ok (.lload 10, 2) := by decide +kernel
theorem dX3_spread_131 : decode cX3_spread 131 = .ok (.lsub, 1) := by decide +kernel
theorem dX3_spread_132 : decode cX3_spread 132 = .ok (.lload 6, 2) := by decide +kernel
theorem dX3_spread_134 : decode cX3_spread 134 = .ok (.lload 10, 2) := by decide +kernel
theorem dX3_spread_136 : decode cX3_spread 136 = .ok (.lsub, 1) := by decide +kernel
theorem dX3_spread_137 : decode cX3_spread 137 = .ok (.lmul, 1) := by decide +kernel
theorem dX3_spread_138 : decode cX3_spread 138 = .ok (.ladd, 1) := by decide +kernel
theorem dX3_spread_139 : decode cX3_spread 139 = .ok (.lload 14, 2) := by decide +kernel
theorem dX3_spread_141 : decode cX3_spread 141 = .ok (.lmul, 1) := by decide +kernel
theorem dX3_spread_142 : decode cX3_spread 142 = .ok (.lreturn, 1) := by decide +kernel
theorem dX3_spread_143 : decode cX3_spread 143 = .ok (.lload 4, 2) := by decide +kernel
theorem dX3_spread_145 : decode cX3_spread 145 = .ok (.lload 10, 2) := by decide +kernel
theorem dX3_spread_147 : decode cX3_spread 147 = .ok (.lmul, 1) := by decide +kernel
theorem dX3_spread_148 : decode cX3_spread 148 = .ok (.lload 6, 2) := by decide +kernel
theorem dX3_spread_150 : decode cX3_spread 150 = .ok (.lload 8, 2) := by decide +kernel
theorem dX3_spread_152 : decode cX3_spread 152 = .ok (.lmul, 1) := by decide +kernel
theorem dX3_spread_153 : decode cX3_spread 153 = .ok (.lsub, 1) := by decide +kernel
theorem dX3_spread_154 : decode cX3_spread 154 = .ok (.lload 4, 2) := by decide +kernel
theorem dX3_spread_156 : decode cX3_spread 156 = .ok (.lload 10, 2) := by decide +kernel
theorem dX3_spread_158 : decode cX3_spread 158 = .ok (.lmul, 1) := by decide +kernel
theorem dX3_spread_159 : decode cX3_spread 159 = .ok (.lload 6, 2) := by decide +kernel
theorem dX3_spread_161 : decode cX3_spread 161 = .ok (.lload 8, 2) := by decide +kernel
theorem dX3_spread_163 : decode cX3_spread 163 = .ok (.lmul, 1) := by decide +kernel
theorem dX3_spread_164 : decode cX3_spread 164 = .ok (.lsub, 1) := by decide +kernel
theorem dX3_spread_165 : decode cX3_spread 165 = .ok (.lmul, 1) := by decide +kernel
theorem dX3_spread_166 : decode cX3_spread 166 = .ok (.lreturn, 1) := by decide +kernel
set_option maxRecDepth 20000 in
theorem ggX3_scale_X3_square : GoodIn wsX3_scale wsX3_square := goodIn_r _ [9, 10, 11, 12, 8, 13, 14, 15, 16, 17, 18, 19, 20, 21] (by decide +kernel) (by decide +kernel)
set_option maxRecDepth 20000 in
theorem gX3_scale_X3_square : GoodIn wsX3_scale (wsV RX3 62 RX3 yX3_square wsX3_square) := goodIn_app (goodIn_of _ (by decide +kernel)) ggX3_scale_X3_square
theorem dX3_scale_0 : decode cX3_scale 0 = .ok (.aload_n 0, 1) := by decide +kernel
theorem dX3_scale_1 : decode cX3_scale 1 = .ok (.iload_n 1, 1) := by decide +kernel
theorem dX3_scale_2 : decode cX3_scale 2 = .ok (.iload_n 2, 1) := by decide +kernel
theorem dX3_scale_3 : decode cX3_scale 3 = .ok (.invokevirtual 62, 3) := by decide +kernel
theorem dX3_scale_6 : decode cX3_scale 6 = .ok (.lconst 1, 1) := by decide +kernel
theorem dX3_scale_7 : decode cX3_scale 7 = .ok (.invokestatic 56, 3) := by decide +kernel
theorem dX3_scale_10 : decode cX3_scale 10 = .ok (.lreturn, 1) := by decide +kernel
set_option maxRecDepth 20000 in
theorem ggX3_hundredths_X3_scale : GoodIn wsX3_hundredths wsX3_scale := goodIn_r _ [6, 7, 8, 9, 10, 11, 12, 13, 5, 14, 15, 16, 17, 18, 19, 20, 21, 22, 23, 31, 32, 33] (by decide +kernel) (by decide +kernel)
set_option maxRecDepth 20000 in
theorem gX3_hundredths_X3_scale : GoodIn wsX3_hundredths (wsV RX3 66 RX3 yX3_scale wsX3_scale) := goodIn_app (goodIn_of _ (by decide +kernel)) ggX3_hundredths_X3_scale
set_option maxRecDepth 20000 in
theorem ggX3_hundredths_X3_spread : GoodIn wsX3_hundredths wsX3_spread := goodIn_r _ [27, 7, 8, 9, 10, 15, 16, 17, 5, 18, 19, 20, 21, 22, 23, 31, 32, 33] (by decide +kernel) (by decide +kernel)
set_option maxRecDepth 20000 in
theorem gX3_hundredths_X3_spread : GoodIn wsX3_hundredths (wsV RX3 71 RX3 yX3_spread wsX3_spread) := goodIn_app (goodIn_of _ (by decide +kernel)) ggX3_hundredths_X3_spread
set_option maxRecDepth 20000 in
theorem ggX3_hundredths_X5_root : GoodIn wsX3_hundredths wsX5_root := goodIn_r _ [30] (by decide +kernel) (by decide +kernel)
set_option maxRecDepth 20000 in
theorem gX3_hundredths_X5_root_n75 : GoodIn wsX3_hundredths (wsX5_root) := ggX3_hundredths_X5_root
theorem dX3_hundredths_0 : decode cX3_hundredths 0 = .ok (.aload_n 0, 1) := by decide +kernel
theorem dX3_hundredths_1 : decode cX3_hundredths 1 = .ok (.iload_n 2, 1) := by decide +kernel
theorem dX3_hundredths_2 : decode cX3_hundredths 2 = .ok (.iload_n 3, 1) := by decide +kernel
theorem dX3_hundredths_3 : decode cX3_hundredths 3 = .ok (.invokevirtual 66, 3) := by decide +kernel
theorem dX3_hundredths_6 : decode cX3_hundredths 6 = .ok (.lstore 4, 2) := by decide +kernel
theorem dX3_hundredths_8 : decode cX3_hundredths 8 = .ok (.lload 4, 2) := by decide +kernel
theorem dX3_hundredths_10 : decode cX3_hundredths 10 = .ok (.lconst 0, 1) := by decide +kernel
theorem dX3_hundredths_11 : decode cX3_hundredths 11 = .ok (.lcmp, 1) := by decide +kernel
theorem dX3_hundredths_12 : decode cX3_hundredths 12 = .ok (.ifCond .gt 5, 3) := by decide +kernel
theorem dX3_hundredths_15 : decode cX3_hundredths 15 = .ok (.iconst 0, 1) := by decide +kernel
theorem dX3_hundredths_16 : decode cX3_hundredths 16 = .ok (.ireturn, 1) := by decide +kernel
theorem dX3_hundredths_17 : decode cX3_hundredths 17 = .ok (.ldc2_w 69, 3) := by decide +kernel
theorem dX3_hundredths_20 : decode cX3_hundredths 20 = .ok (.aload_n 0, 1) := by decide +kernel
theorem dX3_hundredths_21 : decode cX3_hundredths 21 = .ok (.iload_n 1, 1) := by decide +kernel
theorem dX3_hundredths_22 : decode cX3_hundredths 22 = .ok (.iload_n 2, 1) := by decide +kernel
theorem dX3_hundredths_23 : decode cX3_hundredths 23 = .ok (.iload_n 3, 1) := by decide +kernel
theorem dX3_hundredths_24 : decode cX3_hundredths 24 = .ok (.invokevirtual 71, 3) := by decide +kernel
theorem dX3_hundredths_27 : decode cX3_hundredths 27 = .ok (.lmul, 1) := by decide +kernel
theorem dX3_hundredths_28 : decode cX3_hundredths 28 = .ok (.lload 4, 2) := by decide +kernel
theorem dX3_hundredths_30 : decode cX3_hundredths 30 = .ok (.ldiv, 1) := by decide +kernel
theorem dX3_hundredths_31 : decode cX3_hundredths 31 = .ok (.invokestatic 75, 3) := by decide +kernel
theorem dX3_hundredths_34 : decode cX3_hundredths 34 = .ok (.ireturn, 1) := by decide +kernel
set_option maxRecDepth 20000 in
theorem ggX3_stray_X3_isKept : GoodIn wsX3_stray wsX3_isKept := goodIn_r _ [5, 6, 7, 8, 9, 51, 52, 53] (by decide +kernel) (by decide +kernel)
set_option maxRecDepth 20000 in
theorem gX3_stray_X3_isKept : GoodIn wsX3_stray (wsV RX3 52 RX3 yX3_isKept wsX3_isKept) := goodIn_app (goodIn_of _ (by decide +kernel)) ggX3_stray_X3_isKept
set_option maxRecDepth 20000 in
theorem ggX3_stray_X3_keptBefore : GoodIn wsX3_stray wsX3_keptBefore := goodIn_r _ [13, 1, 2, 3, 4, 5, 6, 7, 8, 9, 51, 52, 53] (by decide +kernel) (by decide +kernel)
set_option maxRecDepth 20000 in
theorem gX3_stray_X3_keptBefore : GoodIn wsX3_stray (wsV RX3 79 RX3 yX3_keptBefore wsX3_keptBefore) := goodIn_app (goodIn_of _ (by decide +kernel)) ggX3_stray_X3_keptBefore
set_option maxRecDepth 20000 in
theorem ggX3_stray_X3_keptBehind : GoodIn wsX3_stray wsX3_keptBehind := goodIn_r _ [17, 18, 1, 2, 3, 4, 5, 6, 7, 8, 9, 51, 52, 53] (by decide +kernel) (by decide +kernel)
set_option maxRecDepth 20000 in
theorem gX3_stray_X3_keptBehind : GoodIn wsX3_stray (wsV RX3 82 RX3 yX3_keptBehind wsX3_keptBehind) := goodIn_app (goodIn_of _ (by decide +kernel)) ggX3_stray_X3_keptBehind
set_option maxRecDepth 20000 in
theorem ggX3_stray_X3_hundredths : GoodIn wsX3_stray wsX3_hundredths := goodIn_r _ [22, 23, 24, 25, 26, 4, 27, 28, 29, 30, 31, 32, 33, 34, 35, 36, 37, 38, 39, 40, 41, 42, 43, 44, 45, 46, 47, 48, 49, 8, 50, 51, 52, 53] (by decide +kernel) (by decide +kernel)
set_option maxRecDepth 20000 in
theorem gX3_stray_X3_hundredths : GoodIn wsX3_stray (wsV RX3 85 RX3 yX3_hundredths wsX3_hundredths) := goodIn_app (goodIn_of _ (by decide +kernel)) ggX3_stray_X3_hundredths
theorem dX3_stray_0 : decode cX3_stray 0 = .ok (.aload_n 0, 1) := by decide +kernel
theorem dX3_stray_1 : decode cX3_stray 1 = .ok (.iload_n 1, 1) := by decide +kernel
theorem dX3_stray_2 : decode cX3_stray 2 = .ok (.invokevirtual 52, 3) := by decide +kernel
theorem dX3_stray_5 : decode cX3_stray 5 = .ok (.ifCond .eq 7, 3) := by decide +kernel
theorem dX3_stray_8 : decode cX3_stray 8 = .ok (.iconst 0, 1) := by decide +kernel
theorem dX3_stray_9 : decode cX3_stray 9 = .ok (.goto 18, 3) := by decide +kernel
theorem dX3_stray_12 : decode cX3_stray 12 = .ok (.aload_n 0, 1) := by decide +kernel
theorem dX3_stray_13 : decode cX3_stray 13 = .ok (.iload_n 1, 1) := by decide +kernel
theorem dX3_stray_14 : decode cX3_stray 14 = .ok (.aload_n 0, 1) := by decide +kernel
theorem dX3_stray_15 : decode cX3_stray 15 = .ok (.iload_n 1, 1) := by decide +kernel
theorem dX3_stray_16 : decode cX3_stray 16 = .ok (.invokevirtual 79, 3) := by decide +kernel
theorem dX3_stray_19 : decode cX3_stray 19 = .ok (.aload_n 0, 1) := by decide +kernel
theorem dX3_stray_20 : decode cX3_stray 20 = .ok (.iload_n 1, 1) := by decide +kernel
theorem dX3_stray_21 : decode cX3_stray 21 = .ok (.invokevirtual 82, 3) := by decide +kernel
theorem dX3_stray_24 : decode cX3_stray 24 = .ok (.invokevirtual 85, 3) := by decide +kernel
theorem dX3_stray_27 : decode cX3_stray 27 = .ok (.ireturn, 1) := by decide +kernel
set_option maxRecDepth 20000 in
theorem ggX3_firstOfGreatestStray_X3_stray : GoodIn wsX3_firstOfGreatestStray wsX3_stray := goodIn_r _ [6, 7, 8, 9, 5, 10, 11, 12, 13, 14, 15, 16, 17, 18, 19, 20, 21, 22, 1, 23, 24, 25, 26, 27, 28, 29, 30, 31, 32, 33, 34, 35, 36, 37, 38, 39, 40, 41, 42, 43, 44, 45, 46, 47, 48, 49, 50, 51, 52, 53, 54, 55, 56, 57] (by decide +kernel) (by decide +kernel)
set_option maxRecDepth 20000 in
theorem gX3_firstOfGreatestStray_X3_stray : GoodIn wsX3_firstOfGreatestStray (wsV RX3 89 RX3 yX3_stray wsX3_stray) := goodIn_app (goodIn_of _ (by decide +kernel)) ggX3_firstOfGreatestStray_X3_stray
theorem dX3_firstOfGreatestStray_0 : decode cX3_firstOfGreatestStray 0 = .ok (.iconst 0, 1) := by decide +kernel
theorem dX3_firstOfGreatestStray_1 : decode cX3_firstOfGreatestStray 1 = .ok (.istore_n 1, 1) := by decide +kernel
theorem dX3_firstOfGreatestStray_2 : decode cX3_firstOfGreatestStray 2 = .ok (.iconst 0, 1) := by decide +kernel
theorem dX3_firstOfGreatestStray_3 : decode cX3_firstOfGreatestStray 3 = .ok (.istore_n 2, 1) := by decide +kernel
theorem dX3_firstOfGreatestStray_4 : decode cX3_firstOfGreatestStray 4 = .ok (.iconst 0, 1) := by decide +kernel
theorem dX3_firstOfGreatestStray_5 : decode cX3_firstOfGreatestStray 5 = .ok (.istore_n 3, 1) := by decide +kernel
theorem dX3_firstOfGreatestStray_6 : decode cX3_firstOfGreatestStray 6 = .ok (.iload_n 3, 1) := by decide +kernel
theorem dX3_firstOfGreatestStray_7 : decode cX3_firstOfGreatestStray 7 = .ok (.aload_n 0, 1) := by decide +kernel
theorem dX3_firstOfGreatestStray_8 : decode cX3_firstOfGreatestStray 8 = .ok (.getfield 15, 3) := by decide +kernel
theorem dX3_firstOfGreatestStray_11 : decode cX3_firstOfGreatestStray 11 = .ok (.if_icmp .ge 27, 3) := by decide +kernel
theorem dX3_firstOfGreatestStray_14 : decode cX3_firstOfGreatestStray 14 = .ok (.aload_n 0, 1) := by decide +kernel
theorem dX3_firstOfGreatestStray_15 : decode cX3_firstOfGreatestStray 15 = .ok (.iload_n 3, 1) := by decide +kernel
theorem dX3_firstOfGreatestStray_16 : decode cX3_firstOfGreatestStray 16 = .ok (.invokevirtual 89, 3) := by decide +kernel
theorem dX3_firstOfGreatestStray_19 : decode cX3_firstOfGreatestStray 19 = .ok (.istore 4, 2) := by decide +kernel
theorem dX3_firstOfGreatestStray_21 : decode cX3_firstOfGreatestStray 21 = .ok (.iload 4, 2) := by decide +kernel
theorem dX3_firstOfGreatestStray_23 : decode cX3_firstOfGreatestStray 23 = .ok (.iload_n 2, 1) := by decide +kernel
theorem dX3_firstOfGreatestStray_24 : decode cX3_firstOfGreatestStray 24 = .ok (.if_icmp .le 8, 3) := by decide +kernel
theorem dX3_firstOfGreatestStray_27 : decode cX3_firstOfGreatestStray 27 = .ok (.iload 4, 2) := by decide +kernel
theorem dX3_firstOfGreatestStray_29 : decode cX3_firstOfGreatestStray 29 = .ok (.istore_n 2, 1) := by decide +kernel
theorem dX3_firstOfGreatestStray_30 : decode cX3_firstOfGreatestStray 30 = .ok (.iload_n 3, 1) := by decide +kernel
theorem dX3_firstOfGreatestStray_31 : decode cX3_firstOfGreatestStray 31 = .ok (.istore_n 1, 1) := by decide +kernel
theorem dX3_firstOfGreatestStray_32 : decode cX3_firstOfGreatestStray 32 = .ok (.iinc 3 1, 3) := by decide +kernel
theorem dX3_firstOfGreatestStray_35 : decode cX3_firstOfGreatestStray 35 = .ok (.goto (-29), 3) := by decide +kernel
theorem dX3_firstOfGreatestStray_38 : decode cX3_firstOfGreatestStray 38 = .ok (.iload_n 1, 1) := by decide +kernel
theorem dX3_firstOfGreatestStray_39 : decode cX3_firstOfGreatestStray 39 = .ok (.ireturn, 1) := by decide +kernel
set_option maxRecDepth 20000 in
theorem ggX3_farthestBetween_X3_spread : GoodIn wsX3_farthestBetween wsX3_spread := goodIn_r _ [5, 6, 7, 8, 9, 10, 11, 12, 4, 13, 14, 15, 16, 17, 18, 19, 20, 21] (by decide +kernel) (by decide +kernel)
set_option maxRecDepth 20000 in
theorem gX3_farthestBetween_X3_spread : GoodIn wsX3_farthestBetween (wsV RX3 71 RX3 yX3_spread wsX3_spread) := goodIn_app (goodIn_of _ (by decide +kernel)) ggX3_farthestBetween_X3_spread
theorem dX3_farthestBetween_0 : decode cX3_farthestBetween 0 = .ok (.iload_n 1, 1) := by decide +kernel
theorem dX3_farthestBetween_1 : decode cX3_farthestBetween 1 = .ok (.istore_n 3, 1) := by decide +kernel
theorem dX3_farthestBetween_2 : decode cX3_farthestBetween 2 = .ok (.lconst 0, 1) := by decide +kernel
theorem dX3_farthestBetween_3 : decode cX3_farthestBetween 3 = .ok (.lstore 4, 2) := by decide +kernel
theorem dX3_farthestBetween_5 : decode cX3_farthestBetween 5 = .ok (.iload_n 1, 1) := by decide +kernel
theorem dX3_farthestBetween_6 : decode cX3_farthestBetween 6 = .ok (.iconst 1, 1) := by decide +kernel
theorem dX3_farthestBetween_7 : decode cX3_farthestBetween 7 = .ok (.iadd, 1) := by decide +kernel
theorem dX3_farthestBetween_8 : decode cX3_farthestBetween 8 = .ok (.istore 6, 2) := by decide +kernel
theorem dX3_farthestBetween_10 : decode cX3_farthestBetween 10 = .ok (.iload 6, 2) := by decide +kernel
theorem dX3_farthestBetween_12 : decode cX3_farthestBetween 12 = .ok (.iload_n 2, 1) := by decide +kernel
theorem dX3_farthestBetween_13 : decode cX3_farthestBetween 13 = .ok (.if_icmp .ge 34, 3) := by decide +kernel
theorem dX3_farthestBetween_16 : decode cX3_farthestBetween 16 = .ok (.aload_n 0, 1) := by decide +kernel
theorem dX3_farthestBetween_17 : decode cX3_farthestBetween 17 = .ok (.iload 6, 2) := by decide +kernel
theorem dX3_farthestBetween_19 : decode cX3_farthestBetween 19 = .ok (.iload_n 1, 1) := by decide +kernel
theorem dX3_farthestBetween_20 : decode cX3_farthestBetween 20 = .ok (.iload_n 2, 1) := by decide +kernel
theorem dX3_farthestBetween_21 : decode cX3_farthestBetween 21 = .ok (.invokevirtual 71, 3) := by decide +kernel
theorem dX3_farthestBetween_24 : decode cX3_farthestBetween 24 = .ok (.lstore 7, 2) := by decide +kernel
theorem dX3_farthestBetween_26 : decode cX3_farthestBetween 26 = .ok (.lload 7, 2) := by decide +kernel
theorem dX3_farthestBetween_28 : decode cX3_farthestBetween 28 = .ok (.lload 4, 2) := by decide +kernel
theorem dX3_farthestBetween_30 : decode cX3_farthestBetween 30 = .ok (.lcmp, 1) := by decide +kernel
theorem dX3_farthestBetween_31 : decode cX3_farthestBetween 31 = .ok (.ifCond .le 10, 3) := by decide +kernel
theorem dX3_farthestBetween_34 : decode cX3_farthestBetween 34 = .ok (.lload 7, 2) := by decide +kernel
theorem dX3_farthestBetween_36 : decode cX3_farthestBetween 36 = .ok (.lstore 4, 2) := by decide +kernel
theorem dX3_farthestBetween_38 : decode cX3_farthestBetween 38 = .ok (.iload 6, 2) := by decide +kernel
theorem dX3_farthestBetween_40 : decode cX3_farthestBetween 40 = .ok (.istore_n 3, 1) := by decide +kernel
theorem dX3_farthestBetween_41 : decode cX3_farthestBetween 41 = .ok (.iinc 6 1, 3) := by decide +kernel
theorem dX3_farthestBetween_44 : decode cX3_farthestBetween 44 = .ok (.goto (-34), 3) := by decide +kernel
theorem dX3_farthestBetween_47 : decode cX3_farthestBetween 47 = .ok (.iload_n 3, 1) := by decide +kernel
theorem dX3_farthestBetween_48 : decode cX3_farthestBetween 48 = .ok (.ireturn, 1) := by decide +kernel
theorem dX3_isEnd_0 : decode cX3_isEnd 0 = .ok (.iload_n 1, 1) := by decide +kernel
theorem dX3_isEnd_1 : decode cX3_isEnd 1 = .ok (.ifCond .eq 13, 3) := by decide +kernel
theorem dX3_isEnd_4 : decode cX3_isEnd 4 = .ok (.iload_n 1, 1) := by decide +kernel
theorem dX3_isEnd_5 : decode cX3_isEnd 5 = .ok (.aload_n 0, 1) := by decide +kernel
theorem dX3_isEnd_6 : decode cX3_isEnd 6 = .ok (.getfield 15, 3) := by decide +kernel
theorem dX3_isEnd_9 : decode cX3_isEnd 9 = .ok (.iconst 1, 1) := by decide +kernel
theorem dX3_isEnd_10 : decode cX3_isEnd 10 = .ok (.isub, 1) := by decide +kernel
theorem dX3_isEnd_11 : decode cX3_isEnd 11 = .ok (.if_icmp .ne 7, 3) := by decide +kernel
theorem dX3_isEnd_14 : decode cX3_isEnd 14 = .ok (.iconst 1, 1) := by decide +kernel
theorem dX3_isEnd_15 : decode cX3_isEnd 15 = .ok (.goto 4, 3) := by decide +kernel
theorem dX3_isEnd_18 : decode cX3_isEnd 18 = .ok (.iconst 0, 1) := by decide +kernel
theorem dX3_isEnd_19 : decode cX3_isEnd 19 = .ok (.ireturn, 1) := by decide +kernel
set_option maxRecDepth 20000 in
theorem ggX3_isSharp_X3_productAt : GoodIn wsX3_isSharp wsX3_productAt := goodIn_r _ [6, 7, 8, 9, 5, 10, 11, 12, 13, 14, 15, 20, 21, 22] (by decide +kernel) (by decide +kernel)
set_option maxRecDepth 20000 in
theorem gX3_isSharp_X3_productAt : GoodIn wsX3_isSharp (wsV RX3 92 RX3 yX3_productAt wsX3_productAt) := goodIn_app (goodIn_of _ (by decide +kernel)) ggX3_isSharp_X3_productAt
set_option maxRecDepth 20000 in
theorem ggX3_isSharp_X3_square : GoodIn wsX3_isSharp wsX3_square := goodIn_r _ [19, 7, 8, 9, 5, 10, 11, 12, 13, 14, 15, 20, 21, 22] (by decide +kernel) (by decide +kernel)
set_option maxRecDepth 20000 in
theorem gX3_isSharp_X3_square : GoodIn wsX3_isSharp (wsV RX3 62 RX3 yX3_square wsX3_square) := goodIn_app (goodIn_of _ (by decide +kernel)) ggX3_isSharp_X3_square
theorem dX3_isSharp_0 : decode cX3_isSharp 0 = .ok (.aload_n 0, 1) := by decide +kernel
theorem dX3_isSharp_1 : decode cX3_isSharp 1 = .ok (.iload_n 1, 1) := by decide +kernel
theorem dX3_isSharp_2 : decode cX3_isSharp 2 = .ok (.iload_n 2, 1) := by decide +kernel
theorem dX3_isSharp_3 : decode cX3_isSharp 3 = .ok (.iload_n 3, 1) := by decide +kernel
theorem dX3_isSharp_4 : decode cX3_isSharp 4 = .ok (.invokevirtual 92, 3) := by decide +kernel
theorem dX3_isSharp_7 : decode cX3_isSharp 7 = .ok (.lstore 5, 2) := by decide +kernel
theorem dX3_isSharp_9 : decode cX3_isSharp 9 = .ok (.aload_n 0, 1) := by decide +kernel
theorem dX3_isSharp_10 : decode cX3_isSharp 10 = .ok (.iload_n 1, 1) := by decide +kernel
theorem dX3_isSharp_11 : decode cX3_isSharp 11 = .ok (.iload_n 2, 1) := by decide +kernel
theorem dX3_isSharp_12 : decode cX3_isSharp 12 = .ok (.invokevirtual 62, 3) := by decide +kernel
theorem dX3_isSharp_15 : decode cX3_isSharp 15 = .ok (.aload_n 0, 1) := by decide +kernel
theorem dX3_isSharp_16 : decode cX3_isSharp 16 = .ok (.iload_n 2, 1) := by decide +kernel
theorem dX3_isSharp_17 : decode cX3_isSharp 17 = .ok (.iload_n 3, 1) := by decide +kernel
theorem dX3_isSharp_18 : decode cX3_isSharp 18 = .ok (.invokevirtual 62, 3) := by decide +kernel
theorem dX3_isSharp_21 : decode cX3_isSharp 21 = .ok (.lmul, 1) := by decide +kernel
theorem dX3_isSharp_22 : decode cX3_isSharp 22 = .ok (.lstore 7, 2) := by decide +kernel
theorem dX3_isSharp_24 : decode cX3_isSharp 24 = .ok (.lload 5, 2) := by decide +kernel
theorem dX3_isSharp_26 : decode cX3_isSharp 26 = .ok (.lconst 0, 1) := by decide +kernel
theorem dX3_isSharp_27 : decode cX3_isSharp 27 = .ok (.lcmp, 1) := by decide +kernel
theorem dX3_isSharp_28 : decode cX3_isSharp 28 = .ok (.ifCond .lt 33, 3) := by decide +kernel
theorem dX3_isSharp_31 : decode cX3_isSharp 31 = .ok (.lload 7, 2) := by decide +kernel
theorem dX3_isSharp_33 : decode cX3_isSharp 33 = .ok (.lconst 0, 1) := by decide +kernel
theorem dX3_isSharp_34 : decode cX3_isSharp 34 = .ok (.lcmp, 1) := by decide +kernel
theorem dX3_isSharp_35 : decode cX3_isSharp 35 = .ok (.ifCond .eq 30, 3) := by decide +kernel
theorem dX3_isSharp_38 : decode cX3_isSharp 38 = .ok (.lload 5, 2) := by decide +kernel
theorem dX3_isSharp_40 : decode cX3_isSharp 40 = .ok (.lload 5, 2) := by decide +kernel
theorem dX3_isSharp_42 : decode cX3_isSharp 42 = .ok (.lmul, 1) := by decide +kernel
theorem dX3_isSharp_43 : decode cX3_isSharp 43 = .ok (.ldc2_w 69, 3) := by decide +kernel
theorem dX3_isSharp_46 : decode cX3_isSharp 46 = .ok (.lmul, 1) := by decide +kernel
theorem dX3_isSharp_47 : decode cX3_isSharp 47 = .ok (.iload 4, 2) := by decide +kernel
theorem dX3_isSharp_49 : decode cX3_isSharp 49 = .ok (.i2l, 1) := by decide +kernel
theorem dX3_isSharp_50 : decode cX3_isSharp 50 = .ok (.iload 4, 2) := by decide +kernel
theorem dX3_isSharp_52 : decode cX3_isSharp 52 = .ok (.i2l, 1) := by decide +kernel
theorem dX3_isSharp_53 : decode cX3_isSharp 53 = .ok (.lmul, 1) := by decide +kernel
theorem dX3_isSharp_54 : decode cX3_isSharp 54 = .ok (.lload 7, 2) := by decide +kernel
theorem dX3_isSharp_56 : decode cX3_isSharp 56 = .ok (.lmul, 1) := by decide +kernel
theorem dX3_isSharp_57 : decode cX3_isSharp 57 = .ok (.lcmp, 1) := by decide +kernel
theorem dX3_isSharp_58 : decode cX3_isSharp 58 = .ok (.ifCond .ge 7, 3) := by decide +kernel
theorem dX3_isSharp_61 : decode cX3_isSharp 61 = .ok (.iconst 1, 1) := by decide +kernel
theorem dX3_isSharp_62 : decode cX3_isSharp 62 = .ok (.goto 4, 3) := by decide +kernel
theorem dX3_isSharp_65 : decode cX3_isSharp 65 = .ok (.iconst 0, 1) := by decide +kernel
theorem dX3_isSharp_66 : decode cX3_isSharp 66 = .ok (.ireturn, 1) := by decide +kernel
set_option maxRecDepth 20000 in
theorem ggX3_isThin_X3_width : GoodIn wsX3_isThin wsX3_width := goodIn_r _ [5, 6, 7, 8, 9] (by decide +kernel) (by decide +kernel)
set_option maxRecDepth 20000 in
theorem gX3_isThin_X3_width : GoodIn wsX3_isThin (wsV RX3 49 RX3 yX3_width wsX3_width) := goodIn_app (goodIn_of _ (by decide +kernel)) ggX3_isThin_X3_width
theorem dX3_isThin_0 : decode cX3_isThin 0 = .ok (.aload_n 0, 1) := by decide +kernel
theorem dX3_isThin_1 : decode cX3_isThin 1 = .ok (.iload_n 1, 1) := by decide +kernel
theorem dX3_isThin_2 : decode cX3_isThin 2 = .ok (.invokevirtual 49, 3) := by decide +kernel
theorem dX3_isThin_5 : decode cX3_isThin 5 = .ok (.iload_n 2, 1) := by decide +kernel
theorem dX3_isThin_6 : decode cX3_isThin 6 = .ok (.iadd, 1) := by decide +kernel
theorem dX3_isThin_7 : decode cX3_isThin 7 = .ok (.istore_n 3, 1) := by decide +kernel
theorem dX3_isThin_8 : decode cX3_isThin 8 = .ok (.iload_n 3, 1) := by decide +kernel
theorem dX3_isThin_9 : decode cX3_isThin 9 = .ok (.aload_n 0, 1) := by decide +kernel
theorem dX3_isThin_10 : decode cX3_isThin 10 = .ok (.iload_n 1, 1) := by decide +kernel
theorem dX3_isThin_11 : decode cX3_isThin 11 = .ok (.iconst 1, 1) := by decide +kernel
theorem dX3_isThin_12 : decode cX3_isThin 12 = .ok (.isub, 1) := by decide +kernel
theorem dX3_isThin_13 : decode cX3_isThin 13 = .ok (.invokevirtual 49, 3) := by decide +kernel
theorem dX3_isThin_16 : decode cX3_isThin 16 = .ok (.if_icmp .gt 18, 3) := by decide +kernel
theorem dX3_isThin_19 : decode cX3_isThin 19 = .ok (.iload_n 3, 1) := by decide +kernel
theorem dX3_isThin_20 : decode cX3_isThin 20 = .ok (.aload_n 0, 1) := by decide +kernel
theorem dX3_isThin_21 : decode cX3_isThin 21 = .ok (.iload_n 1, 1) := by decide +kernel
theorem dX3_isThin_22 : decode cX3_isThin 22 = .ok (.iconst 1, 1) := by decide +kernel
theorem dX3_isThin_23 : decode cX3_isThin 23 = .ok (.iadd, 1) := by decide +kernel
theorem dX3_isThin_24 : decode cX3_isThin 24 = .ok (.invokevirtual 49, 3) := by decide +kernel
theorem dX3_isThin_27 : decode cX3_isThin 27 = .ok (.if_icmp .gt 7, 3) := by decide +kernel
theorem dX3_isThin_30 : decode cX3_isThin 30 = .ok (.iconst 1, 1) := by decide +kernel
theorem dX3_isThin_31 : decode cX3_isThin 31 = .ok (.goto 4, 3) := by decide +kernel
theorem dX3_isThin_34 : decode cX3_isThin 34 = .ok (.iconst 0, 1) := by decide +kernel
theorem dX3_isThin_35 : decode cX3_isThin 35 = .ok (.ireturn, 1) := by decide +kernel
set_option maxRecDepth 20000 in
theorem ggX3_kind_X3_isEnd : GoodIn wsX3_kind wsX3_isEnd := goodIn_r _ [5, 6, 37, 38, 39] (by decide +kernel) (by decide +kernel)
set_option maxRecDepth 20000 in
theorem gX3_kind_X3_isEnd : GoodIn wsX3_kind (wsV RX3 95 RX3 yX3_isEnd wsX3_isEnd) := goodIn_app (goodIn_of _ (by decide +kernel)) ggX3_kind_X3_isEnd
set_option maxRecDepth 20000 in
theorem ggX3_kind_X3_isSharp : GoodIn wsX3_kind wsX3_isSharp := goodIn_r _ [10, 11, 12, 13, 14, 4, 15, 16, 17, 18, 19, 20, 21, 22, 23, 24, 25, 26, 27, 28, 37, 38, 39] (by decide +kernel) (by decide +kernel)
set_option maxRecDepth 20000 in
theorem gX3_kind_X3_isSharp : GoodIn wsX3_kind (wsV RX3 98 RX3 yX3_isSharp wsX3_isSharp) := goodIn_app (goodIn_of _ (by decide +kernel)) ggX3_kind_X3_isSharp
set_option maxRecDepth 20000 in
theorem ggX3_kind_X3_isThin : GoodIn wsX3_kind wsX3_isThin := goodIn_r _ [32, 33, 34, 35, 4, 36, 20, 37, 38, 39] (by decide +kernel) (by decide +kernel)
set_option maxRecDepth 20000 in
theorem gX3_kind_X3_isThin : GoodIn wsX3_kind (wsV RX3 102 RX3 yX3_isThin wsX3_isThin) := goodIn_app (goodIn_of _ (by decide +kernel)) ggX3_kind_X3_isThin
theorem dX3_kind_0 : decode cX3_kind 0 = .ok (.aload_n 0, 1) := by decide +kernel
theorem dX3_kind_1 : decode cX3_kind 1 = .ok (.iload_n 1, 1) := by decide +kernel
theorem dX3_kind_2 : decode cX3_kind 2 = .ok (.invokevirtual 95, 3) := by decide +kernel
theorem dX3_kind_5 : decode cX3_kind 5 = .ok (.ifCond .eq 5, 3) := by decide +kernel
theorem dX3_kind_8 : decode cX3_kind 8 = .ok (.iconst 1, 1) := by decide +kernel
theorem dX3_kind_9 : decode cX3_kind 9 = .ok (.ireturn, 1) := by decide +kernel
theorem dX3_kind_10 : decode cX3_kind 10 = .ok (.aload_n 0, 1) := by decide +kernel
theorem dX3_kind_11 : decode cX3_kind 11 = .ok (.iload_n 1, 1) := by decide +kernel
theorem dX3_kind_12 : decode cX3_kind 12 = .ok (.iconst 1, 1) := by decide +kernel
theorem dX3_kind_13 : decode cX3_kind 13 = .ok (.isub, 1) := by decide +kernel
theorem dX3_kind_14 : decode cX3_kind 14 = .ok (.iload_n 1, 1) := by decide +kernel
theorem dX3_kind_15 : decode cX3_kind 15 = .ok (.iload_n 1, 1) := by decide +kernel
theorem dX3_kind_16 : decode cX3_kind 16 = .ok (.iconst 1, 1) := by decide +kernel
theorem dX3_kind_17 : decode cX3_kind 17 = .ok (.iadd, 1) := by decide +kernel
theorem dX3_kind_18 : decode cX3_kind 18 = .ok (.iload_n 2, 1) := by decide +kernel
theorem dX3_kind_19 : decode cX3_kind 19 = .ok (.invokevirtual 98, 3) := by decide +kernel
theorem dX3_kind_22 : decode cX3_kind 22 = .ok (.ifCond .eq 7, 3) := by decide +kernel
theorem dX3_kind_25 : decode cX3_kind 25 = .ok (.iconst 2, 1) := by decide +kernel
theorem dX3_kind_26 : decode cX3_kind 26 = .ok (.goto 4, 3) := by decide +kernel
theorem dX3_kind_29 : decode cX3_kind 29 = .ok (.iconst 0, 1) := by decide +kernel
theorem dX3_kind_30 : decode cX3_kind 30 = .ok (.aload_n 0, 1) := by decide +kernel
theorem dX3_kind_31 : decode cX3_kind 31 = .ok (.iload_n 1, 1) := by decide +kernel
theorem dX3_kind_32 : decode cX3_kind 32 = .ok (.iload_n 3, 1) := by decide +kernel
theorem dX3_kind_33 : decode cX3_kind 33 = .ok (.invokevirtual 102, 3) := by decide +kernel
theorem dX3_kind_36 : decode cX3_kind 36 = .ok (.ifCond .eq 7, 3) := by decide +kernel
theorem dX3_kind_39 : decode cX3_kind 39 = .ok (.iconst 4, 1) := by decide +kernel
theorem dX3_kind_40 : decode cX3_kind 40 = .ok (.goto 4, 3) := by decide +kernel
theorem dX3_kind_43 : decode cX3_kind 43 = .ok (.iconst 0, 1) := by decide +kernel
theorem dX3_kind_44 : decode cX3_kind 44 = .ok (.iadd, 1) := by decide +kernel
theorem dX3_kind_45 : decode cX3_kind 45 = .ok (.ireturn, 1) := by decide +kernel
set_option maxRecDepth 20000 in
theorem ggX3_keptLength_X3_isKept : GoodIn wsX3_keptLength wsX3_isKept := goodIn_r _ [7, 8, 9, 10, 11, 31, 32, 33] (by decide +kernel) (by decide +kernel)
set_option maxRecDepth 20000 in
theorem gX3_keptLength_X3_isKept : GoodIn wsX3_keptLength (wsV RX3 52 RX3 yX3_isKept wsX3_isKept) := goodIn_app (goodIn_of _ (by decide +kernel)) ggX3_keptLength_X3_isKept
set_option maxRecDepth 20000 in
theorem ggX3_keptLength_X3_keptBefore : GoodIn wsX3_keptLength wsX3_keptBefore := goodIn_r _ [15, 3, 4, 5, 6, 7, 8, 9, 10, 11, 31, 32, 33] (by decide +kernel) (by decide +kernel)
set_option maxRecDepth 20000 in
theorem gX3_keptLength_X3_keptBefore : GoodIn wsX3_keptLength (wsV RX3 79 RX3 yX3_keptBefore wsX3_keptBefore) := goodIn_app (goodIn_of _ (by decide +kernel)) ggX3_keptLength_X3_keptBefore
set_option maxRecDepth 20000 in
theorem ggX3_keptLength_X3_square : GoodIn wsX3_keptLength wsX3_square := goodIn_r _ [19, 20, 21, 22, 6, 23, 24, 25, 26, 27, 28, 31, 32, 33] (by decide +kernel) (by decide +kernel)
set_option maxRecDepth 20000 in
theorem gX3_keptLength_X3_square : GoodIn wsX3_keptLength (wsV RX3 62 RX3 yX3_square wsX3_square) := goodIn_app (goodIn_of _ (by decide +kernel)) ggX3_keptLength_X3_square
set_option maxRecDepth 20000 in
theorem ggX3_keptLength_X5_root : GoodIn wsX3_keptLength wsX5_root := goodIn_r _ [30] (by decide +kernel) (by decide +kernel)
set_option maxRecDepth 20000 in
theorem gX3_keptLength_X5_root_n75 : GoodIn wsX3_keptLength (wsX5_root) := ggX3_keptLength_X5_root
theorem dX3_keptLength_0 : decode cX3_keptLength 0 = .ok (.iconst 0, 1) := by decide +kernel
theorem dX3_keptLength_1 : decode cX3_keptLength 1 = .ok (.istore_n 1, 1) := by decide +kernel
theorem dX3_keptLength_2 : decode cX3_keptLength 2 = .ok (.iconst 1, 1) := by decide +kernel
theorem dX3_keptLength_3 : decode cX3_keptLength 3 = .ok (.istore_n 2, 1) := by decide +kernel
theorem dX3_keptLength_4 : decode cX3_keptLength 4 = .ok (.iload_n 2, 1) := by decide +kernel
theorem dX3_keptLength_5 : decode cX3_keptLength 5 = .ok (.aload_n 0, 1) := by decide +kernel
theorem dX3_keptLength_6 : decode cX3_keptLength 6 = .ok (.getfield 15, 3) := by decide +kernel
theorem dX3_keptLength_9 : decode cX3_keptLength 9 = .ok (.if_icmp .ge 37, 3) := by decide +kernel
theorem dX3_keptLength_12 : decode cX3_keptLength 12 = .ok (.aload_n 0, 1) := by decide +kernel
theorem dX3_keptLength_13 : decode cX3_keptLength 13 = .ok (.iload_n 2, 1) := by decide +kernel
theorem dX3_keptLength_14 : decode cX3_keptLength 14 = .ok (.invokevirtual 52, 3) := by decide +kernel
theorem dX3_keptLength_17 : decode cX3_keptLength 17 = .ok (.ifCond .eq 23, 3) := by decide +kernel
theorem dX3_keptLength_20 : decode cX3_keptLength 20 = .ok (.iload_n 1, 1) := by decide +kernel
theorem dX3_keptLength_21 : decode cX3_keptLength 21 = .ok (.ldc2_w 69, 3) := by decide +kernel
theorem dX3_keptLength_24 : decode cX3_keptLength 24 = .ok (.aload_n 0, 1) := by decide +kernel
theorem dX3_keptLength_25 : decode cX3_keptLength 25 = .ok (.aload_n 0, 1) := by decide +kernel
theorem dX3_keptLength_26 : decode cX3_keptLength 26 = .ok (.iload_n 2, 1) := by decide +kernel
theorem dX3_keptLength_27 : decode cX3_keptLength 27 = .ok (.invokevirtual 79, 3) := by decide +kernel
theorem dX3_keptLength_30 : decode cX3_keptLength 30 = .ok (.iload_n 2, 1) := by decide +kernel
theorem dX3_keptLength_31 : decode cX3_keptLength 31 = .ok (.invokevirtual 62, 3) := by decide +kernel
theorem dX3_keptLength_34 : decode cX3_keptLength 34 = .ok (.lmul, 1) := by decide +kernel
theorem dX3_keptLength_35 : decode cX3_keptLength 35 = .ok (.invokestatic 75, 3) := by decide +kernel
theorem dX3_keptLength_38 : decode cX3_keptLength 38 = .ok (.iadd, 1) := by decide +kernel
theorem dX3_keptLength_39 : decode cX3_keptLength 39 = .ok (.istore_n 1, 1) := by decide +kernel
theorem dX3_keptLength_40 : decode cX3_keptLength 40 = .ok (.iinc 2 1, 3) := by decide +kernel
theorem dX3_keptLength_43 : decode cX3_keptLength 43 = .ok (.goto (-39), 3) := by decide +kernel
theorem dX3_keptLength_46 : decode cX3_keptLength 46 = .ok (.iload_n 1, 1) := by decide +kernel
theorem dX3_keptLength_47 : decode cX3_keptLength 47 = .ok (.ireturn, 1) := by decide +kernel
set_option maxRecDepth 20000 in
theorem ggX3_sharpJoins_X3_isKept : GoodIn wsX3_sharpJoins wsX3_isKept := goodIn_r _ [6, 7, 8, 9, 10, 41, 42, 43] (by decide +kernel) (by decide +kernel)
set_option maxRecDepth 20000 in
theorem gX3_sharpJoins_X3_isKept : GoodIn wsX3_sharpJoins (wsV RX3 52 RX3 yX3_isKept wsX3_isKept) := goodIn_app (goodIn_of _ (by decide +kernel)) ggX3_sharpJoins_X3_isKept
set_option maxRecDepth 20000 in
theorem ggX3_sharpJoins_X3_keptBefore : GoodIn wsX3_sharpJoins wsX3_keptBefore := goodIn_r _ [14, 2, 3, 4, 5, 6, 7, 8, 9, 10, 41, 42, 43] (by decide +kernel) (by decide +kernel)
set_option maxRecDepth 20000 in
theorem gX3_sharpJoins_X3_keptBefore : GoodIn wsX3_sharpJoins (wsV RX3 79 RX3 yX3_keptBefore wsX3_keptBefore) := goodIn_app (goodIn_of _ (by decide +kernel)) ggX3_sharpJoins_X3_keptBefore
set_option maxRecDepth 20000 in
theorem ggX3_sharpJoins_X3_keptBehind : GoodIn wsX3_sharpJoins wsX3_keptBehind := goodIn_r _ [18, 1, 2, 3, 4, 5, 6, 7, 8, 9, 10, 41, 42, 43] (by decide +kernel) (by decide +kernel)
set_option maxRecDepth 20000 in
theorem gX3_sharpJoins_X3_keptBehind : GoodIn wsX3_sharpJoins (wsV RX3 82 RX3 yX3_keptBehind wsX3_keptBehind) := goodIn_app (goodIn_of _ (by decide +kernel)) ggX3_sharpJoins_X3_keptBehind
set_option maxRecDepth 20000 in
theorem ggX3_sharpJoins_X3_isSharp : GoodIn wsX3_sharpJoins wsX3_isSharp := goodIn_r _ [22, 23, 24, 25, 26, 5, 27, 28, 29, 30, 31, 32, 33, 34, 35, 36, 37, 38, 39, 40, 41, 42, 43] (by decide +kernel) (by decide +kernel)
set_option maxRecDepth 20000 in
theorem gX3_sharpJoins_X3_isSharp : GoodIn wsX3_sharpJoins (wsV RX3 98 RX3 yX3_isSharp wsX3_isSharp) := goodIn_app (goodIn_of _ (by decide +kernel)) ggX3_sharpJoins_X3_isSharp
theorem dX3_sharpJoins_0 : decode cX3_sharpJoins 0 = .ok (.iconst 0, 1) := by decide +kernel
theorem dX3_sharpJoins_1 : decode cX3_sharpJoins 1 = .ok (.istore_n 2, 1) := by decide +kernel
theorem dX3_sharpJoins_2 : decode cX3_sharpJoins 2 = .ok (.iconst 1, 1) := by decide +kernel
theorem dX3_sharpJoins_3 : decode cX3_sharpJoins 3 = .ok (.istore_n 3, 1) := by decide +kernel
theorem dX3_sharpJoins_4 : decode cX3_sharpJoins 4 = .ok (.iload_n 3, 1) := by decide +kernel
theorem dX3_sharpJoins_5 : decode cX3_sharpJoins 5 = .ok (.aload_n 0, 1) := by decide +kernel
theorem dX3_sharpJoins_6 : decode cX3_sharpJoins 6 = .ok (.getfield 15, 3) := by decide +kernel
theorem dX3_sharpJoins_9 : decode cX3_sharpJoins 9 = .ok (.iconst 1, 1) := by decide +kernel
theorem dX3_sharpJoins_10 : decode cX3_sharpJoins 10 = .ok (.isub, 1) := by decide +kernel
theorem dX3_sharpJoins_11 : decode cX3_sharpJoins 11 = .ok (.if_icmp .ge 39, 3) := by decide +kernel
theorem dX3_sharpJoins_14 : decode cX3_sharpJoins 14 = .ok (.aload_n 0, 1) := by decide +kernel
theorem dX3_sharpJoins_15 : decode cX3_sharpJoins 15 = .ok (.iload_n 3, 1) := by decide +kernel
theorem dX3_sharpJoins_16 : decode cX3_sharpJoins 16 = .ok (.invokevirtual 52, 3) := by decide +kernel
theorem dX3_sharpJoins_19 : decode cX3_sharpJoins 19 = .ok (.ifCond .eq 25, 3) := by decide +kernel
theorem dX3_sharpJoins_22 : decode cX3_sharpJoins 22 = .ok (.aload_n 0, 1) := by decide +kernel
theorem dX3_sharpJoins_23 : decode cX3_sharpJoins 23 = .ok (.aload_n 0, 1) := by decide +kernel
theorem dX3_sharpJoins_24 : decode cX3_sharpJoins 24 = .ok (.iload_n 3, 1) := by decide +kernel
theorem dX3_sharpJoins_25 : decode cX3_sharpJoins 25 = .ok (.invokevirtual 79, 3) := by decide +kernel
theorem dX3_sharpJoins_28 : decode cX3_sharpJoins 28 = .ok (.iload_n 3, 1) := by decide +kernel
theorem dX3_sharpJoins_29 : decode cX3_sharpJoins 29 = .ok (.aload_n 0, 1) := by decide +kernel
theorem dX3_sharpJoins_30 : decode cX3_sharpJoins 30 = .ok (.iload_n 3, 1) := by decide +kernel
theorem dX3_sharpJoins_31 : decode cX3_sharpJoins 31 = .ok (.invokevirtual 82, 3) := by decide +kernel
theorem dX3_sharpJoins_34 : decode cX3_sharpJoins 34 = .ok (.iload_n 1, 1) := by decide +kernel
theorem dX3_sharpJoins_35 : decode cX3_sharpJoins 35 = .ok (.invokevirtual 98, 3) := by decide +kernel
theorem dX3_sharpJoins_38 : decode cX3_sharpJoins 38 = .ok (.ifCond .eq 6, 3) := by decide +kernel
theorem dX3_sharpJoins_41 : decode cX3_sharpJoins 41 = .ok (.iinc 2 1, 3) := by decide +kernel
theorem dX3_sharpJoins_44 : decode cX3_sharpJoins 44 = .ok (.iinc 3 1, 3) := by decide +kernel
theorem dX3_sharpJoins_47 : decode cX3_sharpJoins 47 = .ok (.goto (-43), 3) := by decide +kernel
theorem dX3_sharpJoins_50 : decode cX3_sharpJoins 50 = .ok (.iload_n 2, 1) := by decide +kernel
theorem dX3_sharpJoins_51 : decode cX3_sharpJoins 51 = .ok (.ireturn, 1) := by decide +kernel
set_option maxRecDepth 20000 in
theorem ggX3_countCrossings_X3_isKept : GoodIn wsX3_countCrossings wsX3_isKept := goodIn_r _ [6, 7, 8, 9, 10, 44, 45, 46] (by decide +kernel) (by decide +kernel)
set_option maxRecDepth 20000 in
theorem gX3_countCrossings_X3_isKept : GoodIn wsX3_countCrossings (wsV RX3 52 RX3 yX3_isKept wsX3_isKept) := goodIn_app (goodIn_of _ (by decide +kernel)) ggX3_countCrossings_X3_isKept
set_option maxRecDepth 20000 in
theorem ggX3_countCrossings_X3_crossingsBehind : GoodIn wsX3_countCrossings wsX3_crossingsBehind := goodIn_r _ [14, 1, 15, 16, 17, 5, 18, 2, 3, 4, 6, 7, 8, 9, 10, 19, 20, 21, 22, 23, 24, 25, 26, 27, 28, 29, 30, 31, 32, 33, 34, 35, 36, 37, 38, 39, 40, 41, 42, 43, 44, 45, 46] (by decide +kernel) (by decide +kernel)
set_option maxRecDepth 20000 in
theorem gX3_countCrossings_X3_crossingsBehind : GoodIn wsX3_countCrossings (wsV RX3 105 RX3 yX3_crossingsBehind wsX3_crossingsBehind) := goodIn_app (goodIn_of _ (by decide +kernel)) ggX3_countCrossings_X3_crossingsBehind
theorem dX3_countCrossings_0 : decode cX3_countCrossings 0 = .ok (.iconst 0, 1) := by decide +kernel
theorem dX3_countCrossings_1 : decode cX3_countCrossings 1 = .ok (.istore_n 1, 1) := by decide +kernel
theorem dX3_countCrossings_2 : decode cX3_countCrossings 2 = .ok (.iconst 1, 1) := by decide +kernel
theorem dX3_countCrossings_3 : decode cX3_countCrossings 3 = .ok (.istore_n 2, 1) := by decide +kernel
theorem dX3_countCrossings_4 : decode cX3_countCrossings 4 = .ok (.iload_n 2, 1) := by decide +kernel
theorem dX3_countCrossings_5 : decode cX3_countCrossings 5 = .ok (.aload_n 0, 1) := by decide +kernel
theorem dX3_countCrossings_6 : decode cX3_countCrossings 6 = .ok (.getfield 15, 3) := by decide +kernel
theorem dX3_countCrossings_9 : decode cX3_countCrossings 9 = .ok (.if_icmp .ge 25, 3) := by decide +kernel
theorem dX3_countCrossings_12 : decode cX3_countCrossings 12 = .ok (.aload_n 0, 1) := by decide +kernel
theorem dX3_countCrossings_13 : decode cX3_countCrossings 13 = .ok (.iload_n 2, 1) := by decide +kernel
theorem dX3_countCrossings_14 : decode cX3_countCrossings 14 = .ok (.invokevirtual 52, 3) := by decide +kernel
theorem dX3_countCrossings_17 : decode cX3_countCrossings 17 = .ok (.ifCond .eq 11, 3) := by decide +kernel
theorem dX3_countCrossings_20 : decode cX3_countCrossings 20 = .ok (.iload_n 1, 1) := by decide +kernel
theorem dX3_countCrossings_21 : decode cX3_countCrossings 21 = .ok (.aload_n 0, 1) := by decide +kernel
theorem dX3_countCrossings_22 : decode cX3_countCrossings 22 = .ok (.iload_n 2, 1) := by decide +kernel
theorem dX3_countCrossings_23 : decode cX3_countCrossings 23 = .ok (.invokevirtual 105, 3) := by decide +kernel
theorem dX3_countCrossings_26 : decode cX3_countCrossings 26 = .ok (.iadd, 1) := by decide +kernel
theorem dX3_countCrossings_27 : decode cX3_countCrossings 27 = .ok (.istore_n 1, 1) := by decide +kernel
theorem dX3_countCrossings_28 : decode cX3_countCrossings 28 = .ok (.iinc 2 1, 3) := by decide +kernel
theorem dX3_countCrossings_31 : decode cX3_countCrossings 31 = .ok (.goto (-27), 3) := by decide +kernel
theorem dX3_countCrossings_34 : decode cX3_countCrossings 34 = .ok (.iload_n 1, 1) := by decide +kernel
theorem dX3_countCrossings_35 : decode cX3_countCrossings 35 = .ok (.ireturn, 1) := by decide +kernel
set_option maxRecDepth 20000 in
theorem ggX3_crossingsBehind_X3_keptBefore : GoodIn wsX3_crossingsBehind wsX3_keptBefore := goodIn_r _ [6, 7, 8, 9, 5, 10, 11, 12, 13, 14, 40, 41, 42] (by decide +kernel) (by decide +kernel)
set_option maxRecDepth 20000 in
theorem gX3_crossingsBehind_X3_keptBefore : GoodIn wsX3_crossingsBehind (wsV RX3 79 RX3 yX3_keptBefore wsX3_keptBefore) := goodIn_app (goodIn_of _ (by decide +kernel)) ggX3_crossingsBehind_X3_keptBefore
set_option maxRecDepth 20000 in
theorem ggX3_crossingsBehind_X3_isKept : GoodIn wsX3_crossingsBehind wsX3_isKept := goodIn_r _ [10, 11, 12, 13, 14, 40, 41, 42] (by decide +kernel) (by decide +kernel)
set_option maxRecDepth 20000 in
theorem gX3_crossingsBehind_X3_isKept : GoodIn wsX3_crossingsBehind (wsV RX3 52 RX3 yX3_isKept wsX3_isKept) := goodIn_app (goodIn_of _ (by decide +kernel)) ggX3_crossingsBehind_X3_isKept
set_option maxRecDepth 20000 in
theorem ggX3_crossingsBehind_X3_keptBehind : GoodIn wsX3_crossingsBehind wsX3_keptBehind := goodIn_r _ [18, 1, 7, 8, 9, 5, 10, 11, 12, 13, 14, 40, 41, 42] (by decide +kernel) (by decide +kernel)
set_option maxRecDepth 20000 in
theorem gX3_crossingsBehind_X3_keptBehind : GoodIn wsX3_crossingsBehind (wsV RX3 82 RX3 yX3_keptBehind wsX3_keptBehind) := goodIn_app (goodIn_of _ (by decide +kernel)) ggX3_crossingsBehind_X3_keptBehind
set_option maxRecDepth 20000 in
theorem ggX3_crossingsBehind_X3_cross : GoodIn wsX3_crossingsBehind wsX3_cross := goodIn_r _ [22, 23, 24, 25, 5, 26, 27, 28, 29, 30, 31, 32, 33, 34, 35, 36, 37, 38, 39, 40, 41, 42] (by decide +kernel) (by decide +kernel)
set_option maxRecDepth 20000 in
theorem gX3_crossingsBehind_X3_cross : GoodIn wsX3_crossingsBehind (wsV RX3 108 RX3 yX3_cross wsX3_cross) := goodIn_app (goodIn_of _ (by decide +kernel)) ggX3_crossingsBehind_X3_cross
theorem dX3_crossingsBehind_0 : decode cX3_crossingsBehind 0 = .ok (.aload_n 0, 1) := by decide +kernel
theorem dX3_crossingsBehind_1 : decode cX3_crossingsBehind 1 = .ok (.iload_n 1, 1) := by decide +kernel
theorem dX3_crossingsBehind_2 : decode cX3_crossingsBehind 2 = .ok (.invokevirtual 79, 3) := by decide +kernel
theorem dX3_crossingsBehind_5 : decode cX3_crossingsBehind 5 = .ok (.istore_n 2, 1) := by decide +kernel
theorem dX3_crossingsBehind_6 : decode cX3_crossingsBehind 6 = .ok (.iconst 0, 1) := by decide +kernel
theorem dX3_crossingsBehind_7 : decode cX3_crossingsBehind 7 = .ok (.istore_n 3, 1) := by decide +kernel
theorem dX3_crossingsBehind_8 : decode cX3_crossingsBehind 8 = .ok (.iload_n 1, 1) := by decide +kernel
theorem dX3_crossingsBehind_9 : decode cX3_crossingsBehind 9 = .ok (.iconst 1, 1) := by decide +kernel
theorem dX3_crossingsBehind_10 : decode cX3_crossingsBehind 10 = .ok (.iadd, 1) := by decide +kernel
theorem dX3_crossingsBehind_11 : decode cX3_crossingsBehind 11 = .ok (.istore 4, 2) := by decide +kernel
theorem dX3_crossingsBehind_13 : decode cX3_crossingsBehind 13 = .ok (.iload 4, 2) := by decide +kernel
theorem dX3_crossingsBehind_15 : decode cX3_crossingsBehind 15 = .ok (.aload_n 0, 1) := by decide +kernel
theorem dX3_crossingsBehind_16 : decode cX3_crossingsBehind 16 = .ok (.getfield 15, 3) := by decide +kernel
theorem dX3_crossingsBehind_19 : decode cX3_crossingsBehind 19 = .ok (.iconst 1, 1) := by decide +kernel
theorem dX3_crossingsBehind_20 : decode cX3_crossingsBehind 20 = .ok (.isub, 1) := by decide +kernel
theorem dX3_crossingsBehind_21 : decode cX3_crossingsBehind 21 = .ok (.if_icmp .ge 38, 3) := by decide +kernel
theorem dX3_crossingsBehind_24 : decode cX3_crossingsBehind 24 = .ok (.aload_n 0, 1) := by decide +kernel
theorem dX3_crossingsBehind_25 : decode cX3_crossingsBehind 25 = .ok (.iload 4, 2) := by decide +kernel
theorem dX3_crossingsBehind_27 : decode cX3_crossingsBehind 27 = .ok (.invokevirtual 52, 3) := by decide +kernel
theorem dX3_crossingsBehind_30 : decode cX3_crossingsBehind 30 = .ok (.ifCond .eq 23, 3) := by decide +kernel
theorem dX3_crossingsBehind_33 : decode cX3_crossingsBehind 33 = .ok (.aload_n 0, 1) := by decide +kernel
theorem dX3_crossingsBehind_34 : decode cX3_crossingsBehind 34 = .ok (.iload_n 2, 1) := by decide +kernel
theorem dX3_crossingsBehind_35 : decode cX3_crossingsBehind 35 = .ok (.iload_n 1, 1) := by decide +kernel
theorem dX3_crossingsBehind_36 : decode cX3_crossingsBehind 36 = .ok (.iload 4, 2) := by decide +kernel
theorem dX3_crossingsBehind_38 : decode cX3_crossingsBehind 38 = .ok (.aload_n 0, 1) := by decide +kernel
theorem dX3_crossingsBehind_39 : decode cX3_crossingsBehind 39 = .ok (.iload 4, 2) := by decide +kernel
theorem dX3_crossingsBehind_41 : decode cX3_crossingsBehind 41 = .ok (.invokevirtual 82, 3) := by decide +kernel
theorem dX3_crossingsBehind_44 : decode cX3_crossingsBehind 44 = .ok (.invokevirtual 108, 3) := by decide +kernel
theorem dX3_crossingsBehind_47 : decode cX3_crossingsBehind 47 = .ok (.ifCond .eq 6, 3) := by decide +kernel
theorem dX3_crossingsBehind_50 : decode cX3_crossingsBehind 50 = .ok (.iinc 3 1, 3) := by decide +kernel
theorem dX3_crossingsBehind_53 : decode cX3_crossingsBehind 53 = .ok (.iinc 4 1, 3) := by decide +kernel
theorem dX3_crossingsBehind_56 : decode cX3_crossingsBehind 56 = .ok (.goto (-43), 3) := by decide +kernel
theorem dX3_crossingsBehind_59 : decode cX3_crossingsBehind 59 = .ok (.iload_n 3, 1) := by decide +kernel
theorem dX3_crossingsBehind_60 : decode cX3_crossingsBehind 60 = .ok (.ireturn, 1) := by decide +kernel
set_option maxRecDepth 20000 in
theorem ggX3_cross_X3_areApart : GoodIn wsX3_cross wsX3_areApart := goodIn_r _ [5, 6, 7, 8, 4, 9, 10, 11, 12, 13, 14, 15, 16, 17, 18, 19, 20, 21] (by decide +kernel) (by decide +kernel)
set_option maxRecDepth 20000 in
theorem gX3_cross_X3_areApart : GoodIn wsX3_cross (wsV RX3 111 RX3 yX3_areApart wsX3_areApart) := goodIn_app (goodIn_of _ (by decide +kernel)) ggX3_cross_X3_areApart
theorem dX3_cross_0 : decode cX3_cross 0 = .ok (.aload_n 0, 1) := by decide +kernel
theorem dX3_cross_1 : decode cX3_cross 1 = .ok (.iload_n 1, 1) := by decide +kernel
theorem dX3_cross_2 : decode cX3_cross 2 = .ok (.iload_n 2, 1) := by decide +kernel
theorem dX3_cross_3 : decode cX3_cross 3 = .ok (.iload_n 3, 1) := by decide +kernel
theorem dX3_cross_4 : decode cX3_cross 4 = .ok (.iload 4, 2) := by decide +kernel
theorem dX3_cross_6 : decode cX3_cross 6 = .ok (.invokevirtual 111, 3) := by decide +kernel
theorem dX3_cross_9 : decode cX3_cross 9 = .ok (.ifCond .eq 19, 3) := by decide +kernel
theorem dX3_cross_12 : decode cX3_cross 12 = .ok (.aload_n 0, 1) := by decide +kernel
theorem dX3_cross_13 : decode cX3_cross 13 = .ok (.iload_n 3, 1) := by decide +kernel
theorem dX3_cross_14 : decode cX3_cross 14 = .ok (.iload 4, 2) := by decide +kernel
theorem dX3_cross_16 : decode cX3_cross 16 = .ok (.iload_n 1, 1) := by decide +kernel
theorem dX3_cross_17 : decode cX3_cross 17 = .ok (.iload_n 2, 1) := by decide +kernel
theorem dX3_cross_18 : decode cX3_cross 18 = .ok (.invokevirtual 111, 3) := by decide +kernel
theorem dX3_cross_21 : decode cX3_cross 21 = .ok (.ifCond .eq 7, 3) := by decide +kernel
theorem dX3_cross_24 : decode cX3_cross 24 = .ok (.iconst 1, 1) := by decide +kernel
theorem dX3_cross_25 : decode cX3_cross 25 = .ok (.goto 4, 3) := by decide +kernel
theorem dX3_cross_28 : decode cX3_cross 28 = .ok (.iconst 0, 1) := by decide +kernel
theorem dX3_cross_29 : decode cX3_cross 29 = .ok (.ireturn, 1) := by decide +kernel
set_option maxRecDepth 20000 in
theorem ggX3_areApart_X3_sideOf : GoodIn wsX3_areApart wsX3_sideOf := goodIn_r _ [5, 6, 7, 8, 4, 9, 10, 11, 12, 13, 14, 15, 16, 17] (by decide +kernel) (by decide +kernel)
set_option maxRecDepth 20000 in
theorem gX3_areApart_X3_sideOf : GoodIn wsX3_areApart (wsV RX3 114 RX3 yX3_sideOf wsX3_sideOf) := goodIn_app (goodIn_of _ (by decide +kernel)) ggX3_areApart_X3_sideOf
theorem dX3_areApart_0 : decode cX3_areApart 0 = .ok (.aload_n 0, 1) := by decide +kernel
theorem dX3_areApart_1 : decode cX3_areApart 1 = .ok (.iload_n 3, 1) := by decide +kernel
theorem dX3_areApart_2 : decode cX3_areApart 2 = .ok (.iload_n 1, 1) := by decide +kernel
theorem dX3_areApart_3 : decode cX3_areApart 3 = .ok (.iload_n 2, 1) := by decide +kernel
theorem dX3_areApart_4 : decode cX3_areApart 4 = .ok (.invokevirtual 114, 3) := by decide +kernel
theorem dX3_areApart_7 : decode cX3_areApart 7 = .ok (.lstore 5, 2) := by decide +kernel
theorem dX3_areApart_9 : decode cX3_areApart 9 = .ok (.aload_n 0, 1) := by decide +kernel
theorem dX3_areApart_10 : decode cX3_areApart 10 = .ok (.iload 4, 2) := by decide +kernel
theorem dX3_areApart_12 : decode cX3_areApart 12 = .ok (.iload_n 1, 1) := by decide +kernel
theorem dX3_areApart_13 : decode cX3_areApart 13 = .ok (.iload_n 2, 1) := by decide +kernel
theorem dX3_areApart_14 : decode cX3_areApart 14 = .ok (.invokevirtual 114, 3) := by decide +kernel
theorem dX3_areApart_17 : decode cX3_areApart 17 = .ok (.lstore 7, 2) := by decide +kernel
theorem dX3_areApart_19 : decode cX3_areApart 19 = .ok (.lload 5, 2) := by decide +kernel
theorem dX3_areApart_21 : decode cX3_areApart 21 = .ok (.lconst 0, 1) := by decide +kernel
theorem dX3_areApart_22 : decode cX3_areApart 22 = .ok (.lcmp, 1) := by decide +kernel
theorem dX3_areApart_23 : decode cX3_areApart 23 = .ok (.ifCond .ge 10, 3) := by decide +kernel
theorem dX3_areApart_26 : decode cX3_areApart 26 = .ok (.lload 7, 2) := by decide +kernel
theorem dX3_areApart_28 : decode cX3_areApart 28 = .ok (.lconst 0, 1) := by decide +kernel
theorem dX3_areApart_29 : decode cX3_areApart 29 = .ok (.lcmp, 1) := by decide +kernel
theorem dX3_areApart_30 : decode cX3_areApart 30 = .ok (.ifCond .gt 17, 3) := by decide +kernel
theorem dX3_areApart_33 : decode cX3_areApart 33 = .ok (.lload 5, 2) := by decide +kernel
theorem dX3_areApart_35 : decode cX3_areApart 35 = .ok (.lconst 0, 1) := by decide +kernel
theorem dX3_areApart_36 : decode cX3_areApart 36 = .ok (.lcmp, 1) := by decide +kernel
theorem dX3_areApart_37 : decode cX3_areApart 37 = .ok (.ifCond .le 14, 3) := by decide +kernel
theorem dX3_areApart_40 : decode cX3_areApart 40 = .ok (.lload 7, 2) := by decide +kernel
theorem dX3_areApart_42 : decode cX3_areApart 42 = .ok (.lconst 0, 1) := by decide +kernel
theorem dX3_areApart_43 : decode cX3_areApart 43 = .ok (.lcmp, 1) := by decide +kernel
theorem dX3_areApart_44 : decode cX3_areApart 44 = .ok (.ifCond .ge 7, 3) := by decide +kernel
theorem dX3_areApart_47 : decode cX3_areApart 47 = .ok (.iconst 1, 1) := by decide +kernel
theorem dX3_areApart_48 : decode cX3_areApart 48 = .ok (.goto 4, 3) := by decide +kernel
theorem dX3_areApart_51 : decode cX3_areApart 51 = .ok (.iconst 0, 1) := by decide +kernel
theorem dX3_areApart_52 : decode cX3_areApart 52 = .ok (.ireturn, 1) := by decide +kernel
set_option maxRecDepth 20000 in
theorem ggX3_spanX_X3_x : GoodIn wsX3_spanX wsX3_x := goodIn_r _ [13, 14, 15, 16, 17] (by decide +kernel) (by decide +kernel)
set_option maxRecDepth 20000 in
theorem gX3_spanX_X3_x : GoodIn wsX3_spanX (wsV RX3 43 RX3 yX3_x wsX3_x) := goodIn_app (goodIn_of _ (by decide +kernel)) ggX3_spanX_X3_x
theorem dX3_spanX_0 : decode cX3_spanX 0 = .ok (.aload_n 0, 1) := by decide +kernel
theorem dX3_spanX_1 : decode cX3_spanX 1 = .ok (.iconst 0, 1) := by decide +kernel
theorem dX3_spanX_2 : decode cX3_spanX 2 = .ok (.invokevirtual 43, 3) := by decide +kernel
theorem dX3_spanX_5 : decode cX3_spanX 5 = .ok (.istore_n 1, 1) := by decide +kernel
theorem dX3_spanX_6 : decode cX3_spanX 6 = .ok (.aload_n 0, 1) := by decide +kernel
theorem dX3_spanX_7 : decode cX3_spanX 7 = .ok (.iconst 0, 1) := by decide +kernel
theorem dX3_spanX_8 : decode cX3_spanX 8 = .ok (.invokevirtual 43, 3) := by decide +kernel
theorem dX3_spanX_11 : decode cX3_spanX 11 = .ok (.istore_n 2, 1) := by decide +kernel
theorem dX3_spanX_12 : decode cX3_spanX 12 = .ok (.iconst 1, 1) := by decide +kernel
theorem dX3_spanX_13 : decode cX3_spanX 13 = .ok (.istore_n 3, 1) := by decide +kernel
theorem dX3_spanX_14 : decode cX3_spanX 14 = .ok (.iload_n 3, 1) := by decide +kernel
theorem dX3_spanX_15 : decode cX3_spanX 15 = .ok (.aload_n 0, 1) := by decide +kernel
theorem dX3_spanX_16 : decode cX3_spanX 16 = .ok (.getfield 15, 3) := by decide +kernel
theorem dX3_spanX_19 : decode cX3_spanX 19 = .ok (.if_icmp .ge 29, 3) := by decide +kernel
theorem dX3_spanX_22 : decode cX3_spanX 22 = .ok (.iload_n 1, 1) := by decide +kernel
theorem dX3_spanX_23 : decode cX3_spanX 23 = .ok (.aload_n 0, 1) := by decide +kernel
theorem dX3_spanX_24 : decode cX3_spanX 24 = .ok (.iload_n 3, 1) := by decide +kernel
theorem dX3_spanX_25 : decode cX3_spanX 25 = .ok (.invokevirtual 43, 3) := by decide +kernel
theorem dX3_spanX_28 : decode cX3_spanX 28 = .ok (.invokestatic 117, 3) := by decide +kernel
theorem dX3_spanX_31 : decode cX3_spanX 31 = .ok (.istore_n 1, 1) := by decide +kernel
theorem dX3_spanX_32 : decode cX3_spanX 32 = .ok (.iload_n 2, 1) := by decide +kernel
theorem dX3_spanX_33 : decode cX3_spanX 33 = .ok (.aload_n 0, 1) := by decide +kernel
theorem dX3_spanX_34 : decode cX3_spanX 34 = .ok (.iload_n 3, 1) := by decide +kernel
theorem dX3_spanX_35 : decode cX3_spanX 35 = .ok (.invokevirtual 43, 3) := by decide +kernel
theorem dX3_spanX_38 : decode cX3_spanX 38 = .ok (.invokestatic 121, 3) := by decide +kernel
theorem dX3_spanX_41 : decode cX3_spanX 41 = .ok (.istore_n 2, 1) := by decide +kernel
theorem dX3_spanX_42 : decode cX3_spanX 42 = .ok (.iinc 3 1, 3) := by decide +kernel
theorem dX3_spanX_45 : decode cX3_spanX 45 = .ok (.goto (-31), 3) := by decide +kernel
theorem dX3_spanX_48 : decode cX3_spanX 48 = .ok (.iload_n 2, 1) := by decide +kernel
theorem dX3_spanX_49 : decode cX3_spanX 49 = .ok (.iload_n 1, 1) := by decide +kernel
theorem dX3_spanX_50 : decode cX3_spanX 50 = .ok (.isub, 1) := by decide +kernel
theorem dX3_spanX_51 : decode cX3_spanX 51 = .ok (.ireturn, 1) := by decide +kernel
set_option maxRecDepth 20000 in
theorem ggX3_spanY_X3_y : GoodIn wsX3_spanY wsX3_y := goodIn_r _ [13, 14, 15, 16, 17] (by decide +kernel) (by decide +kernel)
set_option maxRecDepth 20000 in
theorem gX3_spanY_X3_y : GoodIn wsX3_spanY (wsV RX3 46 RX3 yX3_y wsX3_y) := goodIn_app (goodIn_of _ (by decide +kernel)) ggX3_spanY_X3_y
theorem dX3_spanY_0 : decode cX3_spanY 0 = .ok (.aload_n 0, 1) := by decide +kernel
theorem dX3_spanY_1 : decode cX3_spanY 1 = .ok (.iconst 0, 1) := by decide +kernel
theorem dX3_spanY_2 : decode cX3_spanY 2 = .ok (.invokevirtual 46, 3) := by decide +kernel
theorem dX3_spanY_5 : decode cX3_spanY 5 = .ok (.istore_n 1, 1) := by decide +kernel
theorem dX3_spanY_6 : decode cX3_spanY 6 = .ok (.aload_n 0, 1) := by decide +kernel
theorem dX3_spanY_7 : decode cX3_spanY 7 = .ok (.iconst 0, 1) := by decide +kernel
theorem dX3_spanY_8 : decode cX3_spanY 8 = .ok (.invokevirtual 46, 3) := by decide +kernel
theorem dX3_spanY_11 : decode cX3_spanY 11 = .ok (.istore_n 2, 1) := by decide +kernel
theorem dX3_spanY_12 : decode cX3_spanY 12 = .ok (.iconst 1, 1) := by decide +kernel
theorem dX3_spanY_13 : decode cX3_spanY 13 = .ok (.istore_n 3, 1) := by decide +kernel
theorem dX3_spanY_14 : decode cX3_spanY 14 = .ok (.iload_n 3, 1) := by decide +kernel
theorem dX3_spanY_15 : decode cX3_spanY 15 = .ok (.aload_n 0, 1) := by decide +kernel
theorem dX3_spanY_16 : decode cX3_spanY 16 = .ok (.getfield 15, 3) := by decide +kernel
theorem dX3_spanY_19 : decode cX3_spanY 19 = .ok (.if_icmp .ge 29, 3) := by decide +kernel
theorem dX3_spanY_22 : decode cX3_spanY 22 = .ok (.iload_n 1, 1) := by decide +kernel
theorem dX3_spanY_23 : decode cX3_spanY 23 = .ok (.aload_n 0, 1) := by decide +kernel
theorem dX3_spanY_24 : decode cX3_spanY 24 = .ok (.iload_n 3, 1) := by decide +kernel
theorem dX3_spanY_25 : decode cX3_spanY 25 = .ok (.invokevirtual 46, 3) := by decide +kernel
theorem dX3_spanY_28 : decode cX3_spanY 28 = .ok (.invokestatic 117, 3) := by decide +kernel
theorem dX3_spanY_31 : decode cX3_spanY 31 = .ok (.istore_n 1, 1) := by decide +kernel
theorem dX3_spanY_32 : decode cX3_spanY 32 = .ok (.iload_n 2, 1) := by decide +kernel
theorem dX3_spanY_33 : decode cX3_spanY 33 = .ok (.aload_n 0, 1) := by decide +kernel
theorem dX3_spanY_34 : decode cX3_spanY 34 = .ok (.iload_n 3, 1) := by decide +kernel
theorem dX3_spanY_35 : decode cX3_spanY 35 = .ok (.invokevirtual 46, 3) := by decide +kernel
theorem dX3_spanY_38 : decode cX3_spanY 38 = .ok (.invokestatic 121, 3) := by decide +kernel
theorem dX3_spanY_41 : decode cX3_spanY 41 = .ok (.istore_n 2, 1) := by decide +kernel
theorem dX3_spanY_42 : decode cX3_spanY 42 = .ok (.iinc 3 1, 3) := by decide +kernel
theorem dX3_spanY_45 : decode cX3_spanY 45 = .ok (.goto (-31), 3) := by decide +kernel
theorem dX3_spanY_48 : decode cX3_spanY 48 = .ok (.iload_n 2, 1) := by decide +kernel
theorem dX3_spanY_49 : decode cX3_spanY 49 = .ok (.iload_n 1, 1) := by decide +kernel
theorem dX3_spanY_50 : decode cX3_spanY 50 = .ok (.isub, 1) := by decide +kernel
theorem dX3_spanY_51 : decode cX3_spanY 51 = .ok (.ireturn, 1) := by decide +kernel
